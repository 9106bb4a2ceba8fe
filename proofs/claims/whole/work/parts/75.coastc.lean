/-! ===== the class: coast, work, undo, images, counts ===== -/
theorem StR.cg {I I' : FI} {n n' : Nat} {S : SR} (h : StR I n n' S) (g : ∀ a, 34 ≤ a → a ≤ 38 → I' a = I a) : StR I' n n' S := fun i a b => by
  have q := h i a b
  unfold MtC at q ⊢
  rw [g 35 (by decide) (by decide), g 36 (by decide) (by decide), g 37 (by decide) (by decide), g 38 (by decide) (by decide)]; exact q
theorem DI_day0 {K : CO} (hW : WK K) : DI K (day0 K) := by
  have hf : ∀ g, g < 6 → ∃ q, q ≤ 999 ∧ day0 K (44 + g) = nI q := fun g hg => by
    rw [d0_f hg]
    by_cases q : g < cG K
    · rw [if_pos q]
      obtain ⟨f, s, h1, h2, h3, h4⟩ := hW.2.2.2.2.2.1 g q
      exact ⟨f, h1, h3⟩
    · rw [if_neg q]; exact ⟨0, by decide, rfl⟩
  have hl : ∀ g, g < 6 → day0 K (44 + g) = nI (day0 K (44 + g)).toNatClampNeg ∧ (day0 K (44 + g)).toNatClampNeg ≤ 999 := fun g hg => by
    obtain ⟨q, h1, h2⟩ := hf g hg
    rw [h2, nI_clamp (by omega)]; exact ⟨rfl, h1⟩
  refine ⟨⟨fun m hm => ?_, fun m hm => Or.inl (d0_on (by omega)), fun m hm => Or.inl (d0_on (by omega))⟩, fun m hm _ => d0_z (by omega) (by omega), fun m h1 h2 => ⟨d0_on (by omega), d0_on (by omega), ?_, d0_z (by omega) (by omega)⟩, fun m hm _ => ?_, ⟨fun _ => 0, fun g => (day0 K (44 + g)).toNatClampNeg, fun m hm => d0_z (by omega) (by omega), fun g hg => (hl g hg).1, ?_⟩, fun g h1 h2 => ?_⟩
  · rw [d0_l hm]
    by_cases q : m < cM K
    · rw [if_pos q]; exact Or.inr rfl
    · rw [if_neg q]; exact Or.inl rfl
  · rw [d0_l h2, if_neg (by omega)]
  · have h6 := hW.2.2.1
    obtain ⟨b, h1, h2, h3⟩ := hW.2.2.2.2.2.2 m hm
    rw [d0_z (by omega) (by omega), h3]; exact nI_le (a := 0) (Nat.zero_le _) (by omega)
  · have q0 := (hl 0 (by decide)).2
    have q1 := (hl 1 (by decide)).2
    have q2 := (hl 2 (by decide)).2
    have q3 := (hl 3 (by decide)).2
    have q4 := (hl 4 (by decide)).2
    have q5 := (hl 5 (by decide)).2
    show 0 + 0 + 0 + 0 + 0 + 0 + ((day0 K (44 + 0)).toNatClampNeg + (day0 K (44 + 1)).toNatClampNeg + (day0 K (44 + 2)).toNatClampNeg + (day0 K (44 + 3)).toNatClampNeg + (day0 K (44 + 4)).toNatClampNeg + (day0 K (44 + 5)).toNatClampNeg) ≤ 5994
    omega
  · rw [d0_f h2, if_neg (by omega)]
theorem c_X10_coast {G : Gx} {d : Nat} {I : FI} {R : FR} {J : FJ} {Q : Po} {s : SG} (hX : SC I R s) (hS : SI s) {x : Int32} (hq : HC I R J Q (coastT s x)) : Cc G mX10_coast (d + 900) 8 48 [rf G 0, .int x] 103 I R J Q := by
  obtain ⟨c, l, b, hXx⟩ := hX
  obtain ⟨⟨hRS, hc, hl, hb, hC, hW, hD, hI, hL⟩, ⟨t1, t2, t3⟩, hB, ⟨p1, p2, p3, p4⟩, r1, r2, r3⟩ := id hXx
  obtain ⟨s1, s2, s3, s4, s5, s6, s7, s8, s9, s10⟩ := hS
  obtain ⟨c2, ec2⟩ : ∃ c2, c2 = 55 - c := ⟨_, rfl⟩
  obtain ⟨l2, el2⟩ : ∃ l2, l2 = 69 - l := ⟨_, rfl⟩
  obtain ⟨b2, eb2⟩ : ∃ b2, b2 = 129 - b := ⟨_, rfl⟩
  have hc2 : c2 = 4 ∨ c2 = 51 := by omega
  have hl2 : l2 = 11 ∨ l2 = 58 := by omega
  have hb2 : b2 = 63 ∨ b2 = 66 := by omega
  have hRK := hRS.K
  have hR08 : R 0 8 = some c2 := (hRS 0 8 (by decide)).trans (by rw [ec2]; rfl)
  have hR09 : R 0 9 = some l2 := (hRS 0 9 (by decide)).trans (by rw [el2]; rfl)
  have hR0b : R 0 11 = some b2 := (hRS 0 11 (by decide)).trans (by rw [eb2]; rfl)
  have hR3c : R 3 0 = some c := hRS 3 0 (by decide)
  have hR3l : R 3 1 = some l := hRS 3 1 (by decide)
  show V _ _ _ _ _ _ _ _ [(0, rf G 0), (1, .int x)] [] _ _ _ _ _
  refine V_aload_n 1 0 rfl _ rfl rfl dX10_coast_0 rfl ?_
  refine V_iload_n 2 1 rfl rfl dX10_coast_1 rfl ?_
  refine V_sipush 5 (600) rfl dX10_coast_2 rfl ?_
  refine V_callV (K' := 1) (S' := 6) 8 0 10 2 [.int x, .int 600] mkX10_needText lkX10_100 (by decide) rfl rfl (by decide) rfl (Nat.le_of_ble_eq_true rfl) (Nat.le_of_ble_eq_true rfl) (Nat.le_of_ble_eq_true rfl) (Nat.le_of_ble_eq_true rfl) rfl rfl dX10_coast_5 rfl (c_X10_needText (most := 600) (hRS 0 0 (by decide)) t1 s4 (by decide) (fun a5 => ?_) (fun a5 => by rw [coastT_n a5] at hq; exact hq _ R ⟨c, l, b, hXx.bump 1 (by decide)⟩ ⟨fun a ha => up2_n _ _ _ (by omega), fun _ => rfl⟩))
  refine Kq_v (k' := 1) (sl' := 6) rfl rfl ?_
  obtain ⟨z, hz, hzm, rfl⟩ := ckT_z s4 a5
  refine V_aload_n 9 0 rfl _ rfl rfl dX10_coast_8 rfl ?_
  refine V_getR 12 0 10 0 1 (hRS 0 0 (by decide)) flX10_10 rfl rfl rfl (by decide) dX10_coast_9 rfl ?_
  refine V_iload_n 13 1 rfl rfl dX10_coast_12 rfl ?_
  refine V_callV (K' := 0) (S' := 0) 16 1 8 1 [.int (nI z)] mkX8_open lkX10_104 (by decide) rfl rfl (by decide) rfl (Nat.le_of_ble_eq_true rfl) (Nat.le_of_ble_eq_true rfl) (Nat.le_of_ble_eq_true rfl) (Nat.le_of_ble_eq_true rfl) rfl rfl dX10_coast_13 rfl (c_X8_open hRK t1 hz s4 t2 s5 (fun I1 hT1 h11 hf1 => ?_))
  refine Kq_v (k' := 1) (sl' := 6) rfl rfl ?_
  refine V_aload_n 17 0 rfl _ rfl rfl dX10_coast_16 rfl ?_
  refine V_getR 20 0 10 8 c2 hR08 flX10_64 rfl rfl rfl (by decide) dX10_coast_17 rfl ?_
  refine V_aload_n 21 0 rfl _ rfl rfl dX10_coast_20 rfl ?_
  refine V_getR 24 0 10 0 1 (hRS 0 0 (by decide)) flX10_10 rfl rfl rfl (by decide) dX10_coast_21 rfl ?_
  refine V_callV (K' := 0) (S' := 0) 27 c2 2 1 [rf G 1] mkX2_readText lkX10_107 (by decide) rfl (ly_c hc2).1 (by omega) rfl (Nat.le_of_ble_eq_true rfl) (Nat.le_of_ble_eq_true rfl) (Nat.le_of_ble_eq_true rfl) (Nat.le_of_ble_eq_true rfl) rfl rfl dX10_coast_24 rfl (c_X2_readText hRK hT1 hc2 (fun K2 ps2 I2 eK hC2 hF2 hp2 => ?_) (fun k2 q2 ps2 I2 eK hk2 hk3 hF2 hp2 => ?_))
  · refine Kq_i (k' := 1) (sl' := 6) rfl rfl ?_
    rw [coastT_k s4 hz hzm eK] at hq
    have hW2 := coF_W eK
    obtain ⟨A, eA⟩ : ∃ A, A = tp s.t z I2 ps2 0 (-1) := ⟨_, rfl⟩
    rw [← eA]
    have a1 : ∀ a, a ≠ 1 → (a < c2 ∨ c2 + 6 < a) → A a = I a := fun a h1 h2 => by rw [eA, tp_n h1, hF2 a h2]; exact hf1 a h1
    have a11 : A 1 1 = 0 := by rw [eA, tp_11, hF2 1 (by omega)]; exact h11
    have a18 : A 1 8 = -1 := by rw [eA]; exact tp_18
    have hCA : CoastC A c2 K2 := hC2.fr (fun a q1 q2 => by rw [eA]; exact tp_n (by omega))
    refine V_if_ne 41 30 rfl dX10_coast_27 rfl (fun c27 => ?_) (fun c27 => absurd c27 (by decide))
    refine V_aload_n 42 0 rfl _ rfl rfl dX10_coast_41 rfl ?_
    refine V_getR 45 0 10 1 3 (hRS 0 1 (by decide)) flX10_19 rfl rfl rfl (by decide) dX10_coast_42 rfl ?_
    refine V_getR 48 3 7 0 c hR3c flX10_85 rfl rfl rfl (by decide) dX10_coast_45 rfl ?_
    refine V_astore_n 49 _ rfl [(2, rf G c), (0, rf G 0), (1, .int (nI z))] (by decide) rfl rfl dX10_coast_48 rfl ?_
    refine V_aload_n 50 1 rfl _ rfl rfl dX10_coast_49 rfl ?_
    refine V_getR 53 0 10 1 3 (hRS 0 1 (by decide)) flX10_19 rfl rfl rfl (by decide) dX10_coast_50 rfl ?_
    refine V_aload_n 54 1 rfl _ rfl rfl dX10_coast_53 rfl ?_
    refine V_getR 57 0 10 8 c2 hR08 flX10_64 rfl rfl rfl (by decide) dX10_coast_54 rfl ?_
    refine V_putR 60 3 7 0 c2 flX10_85 rfl rfl rfl (by decide) (Or.inl rfl) dX10_coast_57 rfl ?_
    refine V_aload_n 61 1 rfl _ rfl rfl dX10_coast_60 rfl ?_
    refine V_aload_n 62 0 rfl _ rfl rfl dX10_coast_61 rfl ?_
    refine V_putR 65 0 10 8 c flX10_64 rfl rfl rfl (by decide) (Or.inl rfl) dX10_coast_62 rfl ?_
    obtain ⟨R2, eR2⟩ : ∃ R2, R2 = upR (upR R 3 0 (some c2)) 0 8 (some c) := ⟨_, rfl⟩
    have hRS2 : RS R2 c2 l b := by rw [eR2]; exact hRS.c ec2 hc
    have hR69 : ∀ k, R2 69 k = R 69 k := fun k => by rw [eR2, upR_n _ _ _ (by decide), upR_n _ _ _ (by decide)]
    rw [← eR2]
    refine V_aload_n 66 1 rfl _ rfl rfl dX10_coast_65 rfl ?_
    refine V_getR 69 0 10 1 3 (hRS2 0 1 (by decide)) flX10_19 rfl rfl rfl (by decide) dX10_coast_66 rfl ?_
    refine V_getR 72 3 7 1 l (hRS2 3 1 (by decide)) flX10_114 rfl rfl rfl (by decide) dX10_coast_69 rfl ?_
    refine V_callV (K' := 0) (S' := 0) 75 l 5 0 [] mkX5_beStandard lkX10_117 (by decide) rfl (ly_l hl).1 (by omega) rfl (Nat.le_of_ble_eq_true rfl) (Nat.le_of_ble_eq_true rfl) (Nat.le_of_ble_eq_true rfl) (Nat.le_of_ble_eq_true rfl) rfl rfl dX10_coast_72 rfl (c_X5_beStandard (by omega) (rk_l0 hRS2.K hl) (rk_l1 hRS2.K hl) (rk_l2 hRS2.K hl) hl (fun I3 hL3 hF3 => ?_))
    refine Kq_v (k' := 1) (sl' := 6) rfl rfl ?_
    refine V_aload_n 76 1 rfl _ rfl rfl dX10_coast_75 rfl ?_
    refine V_getR 79 0 10 10 b (hRS2 0 10 (by decide)) flX10_78 rfl rfl rfl (by decide) dX10_coast_76 rfl ?_
    refine V_iconst 80 (0) rfl dX10_coast_79 rfl ?_
    refine V_putI 83 b 1 2 flX10_120 rfl (ly_b hb).1 rfl (by omega) rfl dX10_coast_80 rfl ?_
    refine V_aload_n 84 1 rfl _ rfl rfl dX10_coast_83 rfl ?_
    refine V_getR 87 0 10 5 39 (hRS2 0 5 (by decide)) flX10_43 rfl rfl rfl (by decide) dX10_coast_84 rfl ?_
    refine V_callV (K' := 0) (S' := 0) 90 39 4 0 [] mkX4_forget lkX10_121 (by decide) rfl rfl (by decide) rfl (Nat.le_of_ble_eq_true rfl) (Nat.le_of_ble_eq_true rfl) (Nat.le_of_ble_eq_true rfl) (Nat.le_of_ble_eq_true rfl) rfl rfl dX10_coast_87 rfl (c_X4_forget ?_)
    refine Kq_v (k' := 1) (sl' := 6) rfl rfl ?_
    refine V_aload_n 91 1 rfl _ rfl rfl dX10_coast_90 rfl ?_
    refine V_iconst 92 (0) rfl dX10_coast_91 rfl ?_
    refine V_putI 95 0 10 12 flX10_124 rfl rfl rfl (by decide) rfl dX10_coast_92 rfl ?_
    obtain ⟨B, eB⟩ : ∃ B, B = up2 (up2 (up2 (up2 I3 b 2 0) 39 3 0) 39 4 0) 0 12 0 := ⟨_, rfl⟩
    rw [← eB]
    have b3 : ∀ a, a ≠ b → a ≠ 39 → a ≠ 0 → B a = I3 a := fun a h1 h2 h3 => by rw [eB, up2_n _ _ _ h3, up2_n _ _ _ h2, up2_n _ _ _ h2, up2_n _ _ _ h1]
    have b1 : ∀ a, a ≠ 1 → a ≠ 0 → a ≠ b → a ≠ 39 → (a < c2 ∨ c2 + 6 < a) → (a < l ∨ l + 3 < a) → B a = I a := fun a h1 h2 h3 h4 h5 h6 => by rw [b3 a h3 h4 h2, hF3 a h6]; exact a1 a h1 h5
    have b11 : B 1 1 = 0 := by rw [b3 1 (by omega) (by decide) (by decide), hF3 1 (by omega)]; exact a11
    have b18 : B 1 8 = -1 := by rw [b3 1 (by omega) (by decide) (by decide), hF3 1 (by omega)]; exact a18
    have hCB : CoastC B c2 K2 := hCA.fr (fun a q1 q2 => by rw [b3 a (by omega) (by omega) (by omega)]; exact hF3 a (by omega))
    have hLB : LawC B l stdF := hL3.fr (fun a q1 q2 => b3 a (by omega) (by omega) (by omega))
    have bb2 : B b 2 = nI 0 := by rw [eB, up2_n _ _ _ (by omega), up2_n _ _ _ (by omega), up2_n _ _ _ (by omega), up2_s]; exact upd_s
    have b393 : B 39 3 = nI 0 := by rw [eB, up2_n _ _ _ (by decide), up2_s, upd_n (by decide), up2_s]; exact upd_s
    have b394 : B 39 4 = nI 0 := by rw [eB, up2_n _ _ _ (by decide), up2_s]; exact upd_s
    have b012 : B 0 12 = 0 := by rw [eB, up2_s]; exact upd_s
    have b0k : ∀ k, k ≠ 12 → B 0 k = I 0 k := fun k hk => by rw [eB, up2_s, upd_n hk, up2_n _ _ _ (by decide), up2_n _ _ _ (by decide), up2_n _ _ _ (by omega), hF3 0 (by omega), a1 0 (by decide) (by omega)]
    have hR18 : ∀ k, k < 7 → R2 18 k = some (19 + k) := fun k hk => by
      rw [hRS2.K 18 k (by decide) (by decide) (by decide)]
      rcases (show k = 0 ∨ k = 1 ∨ k = 2 ∨ k = 3 ∨ k = 4 ∨ k = 5 ∨ k = 6 by omega) with rfl | rfl | rfl | rfl | rfl | rfl | rfl <;> rfl
    refine V_aload_n 96 1 rfl _ rfl rfl dX10_coast_95 rfl ?_
    refine V_getR 99 0 10 2 18 (hRS2 0 2 (by decide)) flX10_26 rfl rfl rfl (by decide) dX10_coast_96 rfl ?_
    refine V_aload_n 100 1 rfl _ rfl rfl dX10_coast_99 rfl ?_
    refine V_getR 103 0 10 1 3 (hRS2 0 1 (by decide)) flX10_19 rfl rfl rfl (by decide) dX10_coast_100 rfl ?_
    refine V_getR 106 3 7 0 c2 (hRS2 3 0 (by decide)) flX10_85 rfl rfl rfl (by decide) dX10_coast_103 rfl ?_
    refine V_callV (K' := 0) (S' := 0) 109 18 3 1 [rf G c2] mkX3_begin lkX10_88 (by decide) rfl rfl (by decide) rfl (Nat.le_of_ble_eq_true rfl) (Nat.le_of_ble_eq_true rfl) (Nat.le_of_ble_eq_true rfl) (Nat.le_of_ble_eq_true rfl) rfl rfl dX10_coast_106 rfl (c_X3_begin (by decide) (fun k hk => hR18 k hk) hc2 (rk_c2 hRS2.K hc2) hCB hW2.2.1 hW2.2.2.1 (fun I4 hD4 hF4 => ?_))
    refine Kq_v (k' := 1) (sl' := 6) rfl rfl ?_
    have hC4 : CoastC I4 c2 K2 := hCB.fr (fun a q1 q2 => hF4 a (by omega))
    have hx : SCx I4 R2 c2 l b (coS s K2) := by
      refine ⟨⟨hRS2, hc2, hl, hb, hC4, hW2, hD4, DI_day0 hW2, hLB.fr (fun a q1 q2 => hF4 a (by omega))⟩, ⟨?_, ?_, ?_⟩, ⟨by show 0 ≤ 8; omega, ?_, fun _ => 0, fun _ => 0, fun i hi => absurd hi (Nat.not_lt_zero _), fun h v e => nomatch e⟩, ⟨?_, ?_, fun j hj => absurd hj (Nat.not_lt_zero _), fun j hj => absurd hj (Nat.not_lt_zero _)⟩, ?_, ?_, ?_⟩
      · rw [hF4 1 (by decide)]; exact b11
      · rw [hF4 2 (by decide), b1 2 (by decide) (by decide) (by omega) (by omega) (by omega) (by omega)]; exact t2
      · rw [hF4 1 (by decide)]; exact b18
      · rw [hF4 b (by omega)]; exact bb2
      · rw [hF4 39 (by decide)]; exact b393
      · rw [hF4 39 (by decide)]; exact b394
      · rw [hF4 0 (by decide)]; exact b012
      · rw [hF4 0 (by decide), b0k 13 (by decide)]; exact r2
      · rw [hF4 0 (by decide), b0k 14 (by decide)]; exact r3
    refine V_aload_n 110 1 rfl _ rfl rfl dX10_coast_109 rfl ?_
    refine V_getR 113 0 10 1 3 (hRS2 0 1 (by decide)) flX10_19 rfl rfl rfl (by decide) dX10_coast_110 rfl ?_
    refine V_getR 116 3 7 0 c2 (hRS2 3 0 (by decide)) flX10_85 rfl rfl rfl (by decide) dX10_coast_113 rfl ?_
    refine V_getI 119 c2 2 8 (nI (cM K2)) hC4.2.2.1 flX10_127 rfl (ly_c hc2).1 rfl (by omega) dX10_coast_116 rfl ?_
    refine V_ret_i rfl rfl (Nat.le_of_ble_eq_true rfl) (fun h => absurd h (by decide)) (Nat.le_of_ble_eq_true rfl) (hq _ R2 ⟨c2, l, b, hx⟩ ⟨fun a ha => by rw [hF4 a (by omega)]; exact b1 a (by omega) (by omega) (by omega) (by omega) (by omega) (by omega), hR69⟩) dX10_coast_119
  · refine Kq_i (k' := 1) (sl' := 6) rfl rfl ?_
    rw [coastT_b s4 hz hzm eK] at hq
    have g : ∀ a, a ≠ 1 → (a < c2 ∨ c2 + 6 < a) → tp s.t z I2 ps2 (nI k2) (nI q2) a = I a := fun a h1 h2 => by rw [tp_n h1, hF2 a h2]; exact hf1 a h1
    have hx := hXx.fr (I' := tp s.t z I2 ps2 (nI k2) (nI q2)) (tn' := 0) (fl' := nI q2) (fun a ha => g a (by omega) (by omega)) (by rw [tp_11, hF2 1 (by omega)]; exact h11) tp_18
    refine V_if_ne 41 30 rfl dX10_coast_27 rfl (fun c27 => absurd c27 (by decide)) (fun c27 => ?_)
    refine V_aload_n 31 0 rfl _ rfl rfl dX10_coast_30 rfl ?_
    refine V_getR 34 0 10 0 1 (hRS 0 0 (by decide)) flX10_10 rfl rfl rfl (by decide) dX10_coast_31 rfl ?_
    refine V_getI 37 1 8 7 (nI k2) tp_17 flX10_111 rfl rfl rfl (by decide) dX10_coast_34 rfl ?_
    refine V_bipush 39 (10) rfl dX10_coast_37 rfl ?_
    refine V_isub 40 dX10_coast_39 rfl ?_
    refine V_ret_i rfl rfl (Nat.le_of_ble_eq_true rfl) (fun h => absurd h (by decide)) (Nat.le_of_ble_eq_true rfl) (hq _ R ⟨c, l, b, hx⟩ ⟨fun a ha => g a (by omega) (by omega), fun _ => rfl⟩) dX10_coast_40
theorem c_X10_work {G : Gx} {d : Nat} {I : FI} {R : FR} {J : FJ} {Q : Po} {s : SG} (hX : SC I R s) (hS : SI s) {x : Int32} (hq : HC I R J Q (workT s x)) : Cc G mX10_work (d + 900) 8 48 [rf G 0, .int x] 103 I R J Q := by
  obtain ⟨c, l, b, hXx⟩ := hX
  obtain ⟨⟨hRS, hc, hl, hb, hC, hW, hD, hI, hL⟩, ⟨t1, t2, t3⟩, hB, ⟨p1, p2, p3, p4⟩, r1, r2, r3⟩ := id hXx
  obtain ⟨s1, s2, s3, s4, s5, s6, s7, s8, s9, s10⟩ := hS
  obtain ⟨c2, ec2⟩ : ∃ c2, c2 = 55 - c := ⟨_, rfl⟩
  obtain ⟨l2, el2⟩ : ∃ l2, l2 = 69 - l := ⟨_, rfl⟩
  obtain ⟨b2, eb2⟩ : ∃ b2, b2 = 129 - b := ⟨_, rfl⟩
  have hc2 : c2 = 4 ∨ c2 = 51 := by omega
  have hl2 : l2 = 11 ∨ l2 = 58 := by omega
  have hb2 : b2 = 63 ∨ b2 = 66 := by omega
  have hRK := hRS.K
  have hR08 : R 0 8 = some c2 := (hRS 0 8 (by decide)).trans (by rw [ec2]; rfl)
  have hR09 : R 0 9 = some l2 := (hRS 0 9 (by decide)).trans (by rw [el2]; rfl)
  have hR0b : R 0 11 = some b2 := (hRS 0 11 (by decide)).trans (by rw [eb2]; rfl)
  have hR3c : R 3 0 = some c := hRS 3 0 (by decide)
  have hR3l : R 3 1 = some l := hRS 3 1 (by decide)
  have hd : dWk 6 = 200 := rfl
  show V _ _ _ _ _ _ _ _ [(0, rf G 0), (1, .int x)] [] _ _ _ _ _
  refine V_aload_n 1 0 rfl _ rfl rfl dX10_work_0 rfl ?_
  refine V_iload_n 2 1 rfl rfl dX10_work_1 rfl ?_
  refine V_sipush 5 (150) rfl dX10_work_2 rfl ?_
  refine V_callV (K' := 1) (S' := 6) 8 0 10 2 [.int x, .int 150] mkX10_needText lkX10_100 (by decide) rfl rfl (by decide) rfl (Nat.le_of_ble_eq_true rfl) (Nat.le_of_ble_eq_true rfl) (Nat.le_of_ble_eq_true rfl) (Nat.le_of_ble_eq_true rfl) rfl rfl dX10_work_5 rfl (c_X10_needText (most := 150) (hRS 0 0 (by decide)) t1 s4 (by decide) (fun a5 => ?_) (fun a5 => by rw [workT_n a5] at hq; exact hq _ R ⟨c, l, b, hXx.bump 1 (by decide)⟩ ⟨fun a ha => up2_n _ _ _ (by omega), fun _ => rfl⟩))
  refine Kq_v (k' := 1) (sl' := 6) rfl rfl ?_
  obtain ⟨z, hz, hzm, rfl⟩ := ckT_z s4 a5
  refine V_aload_n 9 0 rfl _ rfl rfl dX10_work_8 rfl ?_
  refine V_getR 12 0 10 0 1 (hRS 0 0 (by decide)) flX10_10 rfl rfl rfl (by decide) dX10_work_9 rfl ?_
  refine V_iload_n 13 1 rfl rfl dX10_work_12 rfl ?_
  refine V_callV (K' := 0) (S' := 0) 16 1 8 1 [.int (nI z)] mkX8_open lkX10_104 (by decide) rfl rfl (by decide) rfl (Nat.le_of_ble_eq_true rfl) (Nat.le_of_ble_eq_true rfl) (Nat.le_of_ble_eq_true rfl) (Nat.le_of_ble_eq_true rfl) rfl rfl dX10_work_13 rfl (c_X8_open hRK t1 hz s4 t2 s5 (fun I1 hT1 h11 hf1 => ?_))
  refine Kq_v (k' := 1) (sl' := 6) rfl rfl ?_
  have w0 : tp s.t z I1 (sk s.t z 0) 0 (-1) 39 3 = nI s.wn := by rw [tp_n (by decide), hf1 39 (by decide)]; exact p1
  refine V_aload_n 17 0 rfl _ rfl rfl dX10_work_16 rfl ?_
  refine V_getR 20 0 10 5 39 (hRS 0 5 (by decide)) flX10_43 rfl rfl rfl (by decide) dX10_work_17 rfl ?_
  refine V_getI 23 39 4 3 (nI s.wn) w0 flX10_131 rfl rfl rfl (by decide) dX10_work_20 rfl ?_
  refine V_bipush 25 (16) rfl dX10_work_23 rfl ?_
  refine V_icmp_lt 31 28 rfl dX10_work_25 rfl (fun c25 => ?_) (fun c25 => ?_)
  · have hw : ¬ s.wn = 16 := fun e => absurd c25 (by rw [e]; decide)
    refine V_aload_n 32 0 rfl _ rfl rfl dX10_work_31 rfl ?_
    refine V_getR 35 0 10 4 34 (hRS 0 4 (by decide)) flX10_36 rfl rfl rfl (by decide) dX10_work_32 rfl ?_
    refine V_aload_n 36 0 rfl _ rfl rfl dX10_work_35 rfl ?_
    refine V_getR 39 0 10 0 1 (hRS 0 0 (by decide)) flX10_10 rfl rfl rfl (by decide) dX10_work_36 rfl ?_
    refine V_aload_n 40 0 rfl _ rfl rfl dX10_work_39 rfl ?_
    refine V_getR 43 0 10 1 3 (hRS 0 1 (by decide)) flX10_19 rfl rfl rfl (by decide) dX10_work_40 rfl ?_
    refine V_getR 46 3 7 0 c hR3c flX10_85 rfl rfl rfl (by decide) dX10_work_43 rfl ?_
    refine V_callV (K' := 0) (S' := 0) 49 34 9 2 [rf G 1, rf G c] mkX9_readText lkX10_134 (by decide) rfl rfl (by decide) rfl (Nat.le_of_ble_eq_true rfl) (Nat.le_of_ble_eq_true rfl) (Nat.le_of_ble_eq_true rfl) (Nat.le_of_ble_eq_true rfl) rfl rfl dX10_work_46 rfl (c_X9_readText hRK hT1 hc hzm (K := s.K) (hC.fr (fun a q1 q2 => hf1 a (by omega))) hW (by omega) (fun n2 S2 ps2 I2 eK h42 hR2 hF2 hp2 => ?_) (fun k2 q2 ps2 I2 eK hk2 hk3 hq2 hF2 hp2 => ?_))
    · refine Kq_i (k' := 1) (sl' := 6) rfl rfl ?_
      rw [workT_k s4 hz hzm hw eK] at hq
      obtain ⟨hn5, hCh⟩ := wkF_ok eK
      obtain ⟨A, eA⟩ : ∃ A, A = tp s.t z I2 ps2 0 (-1) := ⟨_, rfl⟩
      rw [← eA]
      have a1 : ∀ a, a ≠ 1 → (a < 34 ∨ 38 < a) → A a = I a := fun a h1 h2 => by rw [eA, tp_n h1, hF2 a h2]; exact hf1 a h1
      have a11 : A 1 1 = 0 := by rw [eA, tp_11, hF2 1 (by decide)]; exact h11
      have a18 : A 1 8 = -1 := by rw [eA]; exact tp_18
      have aW : ∀ a, 34 ≤ a → a ≤ 38 → A a = I2 a := fun a h1 h2 => by rw [eA]; exact tp_n (by omega)
      have hDA : DayC A 18 s.D := hD.fr (fun a q1 q2 => a1 a (by omega) (by omega))
      have pA : A 39 3 = nI s.wn := by rw [a1 39 (by decide) (by decide)]; exact p1
      refine V_if_ne 63 52 rfl dX10_work_49 rfl (fun c49 => ?_) (fun c49 => absurd c49 (by decide))
      refine V_aload_n 64 0 rfl _ rfl rfl dX10_work_63 rfl ?_
      refine V_getR 67 0 10 5 39 (hRS 0 5 (by decide)) flX10_43 rfl rfl rfl (by decide) dX10_work_64 rfl ?_
      refine V_aload_n 68 0 rfl _ rfl rfl dX10_work_67 rfl ?_
      refine V_getR 71 0 10 2 18 (hRS 0 2 (by decide)) flX10_26 rfl rfl rfl (by decide) dX10_work_68 rfl ?_
      refine V_callV (K' := 0) (S' := 0) 74 39 4 1 [rf G 18] mkX4_keepWork lkX10_137 (by decide) rfl rfl (by decide) rfl (Nat.le_of_ble_eq_true rfl) (Nat.le_of_ble_eq_true rfl) (Nat.le_of_ble_eq_true rfl) (Nat.le_of_ble_eq_true rfl) rfl rfl dX10_work_71 rfl (c_X4_keepWork hRK hDA pA (by omega) (fun g hg1 hg2 => ?_))
      refine Kq_v (k' := 1) (sl' := 6) rfl rfl ?_
      obtain ⟨B, eB⟩ : ∃ B, B = up2 (upA A 40 g) 39 3 (nI (s.wn + 1)) := ⟨_, rfl⟩
      rw [← eB]
      have b1 : ∀ a, a ≠ 39 → a ≠ 40 → B a = A a := fun a h1 h2 => by rw [eB, up2_n _ _ _ h1, upA_n h2]
      have b40 : B 40 = g := by rw [eB, up2_n _ _ _ (by decide), upA_s]
      have b393 : B 39 3 = nI (s.wn + 1) := by rw [eB, up2_s]; exact upd_s
      have b394 : B 39 4 = nI s.mn := by rw [eB, up2_s, upd_n (by decide), upA_n (by decide), a1 39 (by decide) (by decide)]; exact p2
      have hE : CE B R c l s.K s.f n2 S2 s.D := ⟨hRK, hR3c, hR3l, hRS 3 2 (by decide), hRS 3 3 (by decide), hc, hl, hC.fr (fun a q1 q2 => by rw [b1 a (by omega) (by omega)]; exact a1 a (by omega) (by omega)), hW, hL.fr (fun a q1 q2 => by rw [b1 a (by omega) (by omega)]; exact a1 a (by omega) (by omega)), by omega, hR2.cg (fun a q1 q2 => by rw [b1 a (by omega) (by omega)]; exact aW a q1 q2), hDA.fr (fun a q1 q2 => b1 a (by omega) (by omega))⟩
      have h4B : B 34 4 = nI n2 := by rw [b1 34 (by decide) (by decide), aW 34 (by decide) (by decide)]; exact h42
      refine V_aload_n 75 0 rfl _ rfl rfl dX10_work_74 rfl ?_
      refine V_getR 78 0 10 4 34 (hRS 0 4 (by decide)) flX10_36 rfl rfl rfl (by decide) dX10_work_75 rfl ?_
      refine V_aload_n 79 0 rfl _ rfl rfl dX10_work_78 rfl ?_
      refine V_getR 82 0 10 2 18 (hRS 0 2 (by decide)) flX10_26 rfl rfl rfl (by decide) dX10_work_79 rfl ?_
      refine V_aload_n 83 0 rfl _ rfl rfl dX10_work_82 rfl ?_
      refine V_getR 86 0 10 1 3 (hRS 0 1 (by decide)) flX10_19 rfl rfl rfl (by decide) dX10_work_83 rfl ?_
      refine V_callV (K' := 0) (S' := 0) 89 34 9 2 [rf G 18, rf G 3] mkX9_begin lkX10_141 (by decide) rfl rfl (by decide) rfl (Nat.le_of_ble_eq_true rfl) (Nat.le_of_ble_eq_true rfl) (Nat.le_of_ble_eq_true rfl) (Nat.le_of_ble_eq_true rfl) rfl rfl dX10_work_86 rfl (c_X9_begin hE hI s2.2 hCh h4B (fun I4 hD4 h6 h7 hF4 => ?_))
      refine Kq_v (k' := 1) (sl' := 6) rfl rfl ?_
      have hok := exL_ok s1 s3 6 0 n2 (s.D, 0, 0, 0) hCh ⟨hI, s2.2, Nat.zero_le _, Nat.zero_le _⟩
      have f1 : ∀ a, a ≠ 1 → a ≠ 16 → a ≠ 17 → a ≠ l + 4 → (a < 18 ∨ 25 < a) → (a < 34 ∨ 38 < a) → a ≠ 39 → a ≠ 40 → I4 a = I a := fun a e1 e2 e3 e4 e5 e6 e7 e8 => by rw [hF4 a e2 e3 e4 (by omega) e5, b1 a e7 e8]; exact a1 a e1 e6
      have f1b : I4 1 = A 1 := by rw [hF4 1 (by decide) (by decide) (by omega) (by decide) (by decide)]; exact b1 1 (by decide) (by decide)
      have f39 : I4 39 = B 39 := hF4 39 (by decide) (by decide) (by omega) (by decide) (by decide)
      have f40 : I4 40 = g := by rw [hF4 40 (by decide) (by decide) (by omega) (by decide) (by decide)]; exact b40
      have hx : SCx (up2 I4 0 12 (nI (woE s n2 S2).2.2.2)) R c l b (woS s n2 S2) := by
        have u : ∀ a, a ≠ 0 → up2 I4 0 12 (nI (woE s n2 S2).2.2.2) a = I4 a := fun a h => up2_n _ _ _ h
        refine ⟨⟨hRS, hc, hl, hb, hC.fr (fun a q1 q2 => by rw [u a (by omega)]; exact f1 a (by omega) (by omega) (by omega) (by omega) (by omega) (by omega) (by omega) (by omega)), hW, hD4.fr (fun a q1 q2 => u a (by omega)), hok.1.1, hL.fr (fun a q1 q2 => by rw [u a (by omega)]; exact f1 a (by omega) (by omega) (by omega) (by omega) (by omega) (by omega) (by omega) (by omega))⟩, ⟨?_, ?_, ?_⟩, hB.fr (fun a q1 q2 => by rw [u a (by omega)]; exact f1 a (by omega) (by omega) (by omega) (by omega) (by omega) (by omega) (by omega) (by omega)), ⟨?_, ?_, fun j hj => ?_, ?_⟩, ?_, ?_, ?_⟩
        · rw [u 1 (by decide), f1b]; exact a11
        · rw [u 2 (by decide), f1 2 (by decide) (by decide) (by decide) (by omega) (by decide) (by decide) (by decide) (by decide)]; exact t2
        · rw [u 1 (by decide), f1b]; exact a18
        · rw [u 39 (by decide), f39]; exact b393
        · rw [u 39 (by decide), f39]; exact b394
        · rw [u 40 (by decide), f40]
          have hj1 : j < s.wn + 1 := hj
          by_cases q : j = s.wn
          · subst q; show RowC g (s.wn * 46) (if s.wn = s.wn then s.D else s.W s.wn); rw [if_pos rfl]; exact hg1
          · show RowC g (j * 46) (if j = s.wn then s.D else s.W j)
            rw [if_neg q]
            exact (p3 j (by omega)).cg (fun k hk => by rw [hg2 _ (by omega), a1 40 (by decide) (by decide)])
        · rw [u 41 (by decide), u 42 (by decide), f1 41 (by decide) (by decide) (by decide) (by omega) (by decide) (by decide) (by decide) (by decide), f1 42 (by decide) (by decide) (by decide) (by omega) (by decide) (by decide) (by decide) (by decide)]; exact p4
        · rw [up2_s]; exact upd_s
        · rw [up2_s, upd_n (by decide), f1 0 (by decide) (by decide) (by decide) (by omega) (by decide) (by decide) (by decide) (by decide)]; exact r2
        · rw [up2_s, upd_n (by decide), f1 0 (by decide) (by decide) (by decide) (by omega) (by decide) (by decide) (by decide) (by decide)]; exact r3
      refine V_aload_n 90 0 rfl _ rfl rfl dX10_work_89 rfl ?_
      refine V_aload_n 91 0 rfl _ rfl rfl dX10_work_90 rfl ?_
      refine V_getR 94 0 10 4 34 (hRS 0 4 (by decide)) flX10_36 rfl rfl rfl (by decide) dX10_work_91 rfl ?_
      refine V_getI 97 34 9 7 (nI (woE s n2 S2).2.2.2) h7 flX10_144 rfl rfl rfl (by decide) dX10_work_94 rfl ?_
      refine V_putI 100 0 10 12 flX10_124 rfl rfl rfl (by decide) rfl dX10_work_97 rfl ?_
      refine V_aload_n 101 0 rfl _ rfl rfl dX10_work_100 rfl ?_
      refine V_getR 104 0 10 4 34 (hRS 0 4 (by decide)) flX10_36 rfl rfl rfl (by decide) dX10_work_101 rfl ?_
      refine V_getI 107 34 9 6 (nI (woE s n2 S2).2.2.1) (by rw [up2_n _ _ _ (by decide)]; exact h6) flX10_147 rfl rfl rfl (by decide) dX10_work_104 rfl ?_
      refine V_ret_i rfl rfl (Nat.le_of_ble_eq_true rfl) (fun h => absurd h (by decide)) (Nat.le_of_ble_eq_true rfl) (hq _ R ⟨c, l, b, hx⟩ ⟨fun a ha => by rw [up2_n _ _ _ (by omega)]; exact f1 a (by omega) (by omega) (by omega) (by omega) (by omega) (by omega) (by omega) (by omega), fun _ => rfl⟩) dX10_work_107
    · refine Kq_i (k' := 1) (sl' := 6) rfl rfl ?_
      rw [workT_b s4 hz hzm hw eK] at hq
      have g : ∀ a, a ≠ 1 → (a < 34 ∨ 38 < a) → tp s.t z I2 ps2 (nI k2) (nI q2) a = I a := fun a h1 h2 => by rw [tp_n h1, hF2 a h2]; exact hf1 a h1
      have hx := hXx.fr (I' := tp s.t z I2 ps2 (nI k2) (nI q2)) (tn' := 0) (fl' := nI q2) (fun a ha => g a (by omega) (by omega)) (by rw [tp_11, hF2 1 (by decide)]; exact h11) tp_18
      refine V_if_ne 63 52 rfl dX10_work_49 rfl (fun c49 => absurd c49 (by decide)) (fun c49 => ?_)
      refine V_aload_n 53 0 rfl _ rfl rfl dX10_work_52 rfl ?_
      refine V_getR 56 0 10 0 1 (hRS 0 0 (by decide)) flX10_10 rfl rfl rfl (by decide) dX10_work_53 rfl ?_
      refine V_getI 59 1 8 7 (nI k2) tp_17 flX10_111 rfl rfl rfl (by decide) dX10_work_56 rfl ?_
      refine V_bipush 61 (10) rfl dX10_work_59 rfl ?_
      refine V_isub 62 dX10_work_61 rfl ?_
      refine V_ret_i rfl rfl (Nat.le_of_ble_eq_true rfl) (fun h => absurd h (by decide)) (Nat.le_of_ble_eq_true rfl) (hq _ R ⟨c, l, b, hx⟩ ⟨fun a ha => g a (by omega) (by omega), fun _ => rfl⟩) dX10_work_62
  · refine V_bipush 30 (-20) rfl dX10_work_28 rfl ?_
    refine V_ret_i rfl rfl (Nat.le_of_ble_eq_true rfl) (fun h => absurd h (by decide)) (Nat.le_of_ble_eq_true rfl) (by rw [workT_f s4 hz hzm (by have q1 : ¬ s.wn < 16 := fun h => absurd (nI_lt (b := 16) h (by decide)) c25; omega)] at hq; exact hq _ R ⟨c, l, b, hXx.fr (tn' := 0) (fl' := -1) (fun a ha => by rw [tp_n (by omega)]; exact hf1 a (by omega)) (by rw [tp_11]; exact h11) tp_18⟩ ⟨fun a ha => by rw [tp_n (by omega)]; exact hf1 a (by omega), fun _ => rfl⟩) dX10_work_30
def undoT (s : SG) : Tr := if s.wn = 0 then (.inl (-1), s) else (.inl (nI (s.wn - 1)), (mkS s.K s.f (s.W (s.wn - 1)) s.t s.tn s.nb s.bk (s.wn - 1) s.W s.mn s.M s.mw s.MW 0 s.fl s.mi s.wr))
def imageT (s : SG) : Tr := if s.mn = 3 then (.inl (-1), s) else (.inl (nI (s.mn + 1)), (mkS s.K s.f s.D s.t s.tn s.nb s.bk s.wn s.W (s.mn + 1) (fun i => if i = s.mn then s.D else s.M i) (fun i => if i = s.mn then s.wn else s.mw i) (fun i => if i = s.mn then s.W else s.MW i) s.rs s.fl s.mi s.wr))
def restT (s : SG) : Tr := if s.mn = 0 then (.inl (-1), s) else (.inl (nI (s.mn - 1)), (mkS s.K s.f (s.M (s.mn - 1)) s.t s.tn s.nb s.bk (s.mw (s.mn - 1)) (s.MW (s.mn - 1)) (s.mn - 1) s.M s.mw s.MW 0 s.fl s.mi s.wr))
def statT (s : SG) (x : Int32) : Tr := (.inl (if x = 0 then s.mi else if x = 1 then s.wr else -1), s)
def cntT (s : SG) (x : Int32) : Tr := (.inl (if x = 0 then nI s.mn else if x = 1 then nI s.tn else if x = 2 then nI s.wn else -1), s)
def fltT (s : SG) : Tr := (.inl s.fl, s)
theorem c_X10_undo {G : Gx} {d : Nat} {I : FI} {R : FR} {J : FJ} {Q : Po} {s : SG} (hX : SC I R s) (hS : SI s) (hq : HC I R J Q (undoT s)) : Cc G mX10_undo (d + 900) 0 0 [rf G 0] 103 I R J Q := by
  obtain ⟨c, l, b, hXx⟩ := hX
  obtain ⟨⟨hRS, hc, hl, hb, hC, hW, hD, hI, hL⟩, ⟨t1, t2, t3⟩, hB, ⟨p1, p2, p3, p4⟩, r1, r2, r3⟩ := id hXx
  obtain ⟨s1, s2, s3, s4, s5, s6, s7, s8, s9, s10⟩ := hS
  obtain ⟨c2, ec2⟩ : ∃ c2, c2 = 55 - c := ⟨_, rfl⟩
  obtain ⟨l2, el2⟩ : ∃ l2, l2 = 69 - l := ⟨_, rfl⟩
  obtain ⟨b2, eb2⟩ : ∃ b2, b2 = 129 - b := ⟨_, rfl⟩
  have hc2 : c2 = 4 ∨ c2 = 51 := by omega
  have hl2 : l2 = 11 ∨ l2 = 58 := by omega
  have hb2 : b2 = 63 ∨ b2 = 66 := by omega
  have hRK := hRS.K
  have hR08 : R 0 8 = some c2 := (hRS 0 8 (by decide)).trans (by rw [ec2]; rfl)
  have hR09 : R 0 9 = some l2 := (hRS 0 9 (by decide)).trans (by rw [el2]; rfl)
  have hR0b : R 0 11 = some b2 := (hRS 0 11 (by decide)).trans (by rw [eb2]; rfl)
  have hR3c : R 3 0 = some c := hRS 3 0 (by decide)
  have hR3l : R 3 1 = some l := hRS 3 1 (by decide)
  unfold undoT at hq
  show V _ _ _ _ _ _ _ _ [(0, rf G 0)] [] _ _ _ _ _
  refine V_aload_n 1 0 rfl _ rfl rfl dX10_undo_0 rfl ?_
  refine V_getR 4 0 10 5 39 (hRS 0 5 (by decide)) flX10_43 rfl rfl rfl (by decide) dX10_undo_1 rfl ?_
  refine V_aload_n 5 0 rfl _ rfl rfl dX10_undo_4 rfl ?_
  refine V_getR 8 0 10 2 18 (hRS 0 2 (by decide)) flX10_26 rfl rfl rfl (by decide) dX10_undo_5 rfl ?_
  refine V_callV (K' := 0) (S' := 0) 11 39 4 1 [rf G 18] mkX4_dropWork lkX10_154 (by decide) rfl rfl (by decide) rfl (Nat.le_of_ble_eq_true rfl) (Nat.le_of_ble_eq_true rfl) (Nat.le_of_ble_eq_true rfl) (Nat.le_of_ble_eq_true rfl) rfl rfl dX10_undo_8 rfl (c_X4_dropWork hRK (D := s.W (s.wn - 1)) p1 s7 (fun h => p3 _ (by omega)) (fun h0 => ?_) (fun h0 I2 hD2 hF2 => ?_))
  · refine Kq_i (k' := 0) (sl' := 0) rfl rfl ?_
    rw [if_pos h0] at hq
    refine V_if_ne 16 14 rfl dX10_undo_11 rfl (fun c11 => absurd c11 (by decide)) (fun c11 => ?_)
    refine V_iconst 15 (-1) rfl dX10_undo_14 rfl ?_
    refine V_ret_i rfl rfl (Nat.le_of_ble_eq_true rfl) (fun h => absurd h (by decide)) (Nat.le_of_ble_eq_true rfl) (hq I R ⟨c, l, b, hXx⟩ ⟨fun _ _ => rfl, fun _ => rfl⟩) dX10_undo_15
  · refine Kq_i (k' := 0) (sl' := 0) rfl rfl ?_
    rw [if_neg (by omega)] at hq
    have g : ∀ a, a ≠ 39 → (a < 18 ∨ 25 < a) → I2 a = I a := fun a h1 h2 => by rw [hF2 a h2, up2_n _ _ _ h1]
    have f3 : I2 39 3 = nI (s.wn - 1) := by rw [hF2 39 (by decide), up2_s]; exact upd_s
    have f4 : I2 39 4 = nI s.mn := by rw [hF2 39 (by decide), up2_s, upd_n (by decide)]; exact p2
    have hx : SCx (up2 I2 0 12 0) R c l b (mkS s.K s.f (s.W (s.wn - 1)) s.t s.tn s.nb s.bk (s.wn - 1) s.W s.mn s.M s.mw s.MW 0 s.fl s.mi s.wr) := by
      have u : ∀ a, a ≠ 0 → up2 I2 0 12 0 a = I2 a := fun a h => up2_n _ _ _ h
      refine ⟨⟨hRS, hc, hl, hb, hC.fr (fun a q1 q2 => by rw [u a (by omega)]; exact g a (by omega) (by omega)), hW, hD2.fr (fun a q1 q2 => u a (by omega)), (s8 _ (by omega)).1, hL.fr (fun a q1 q2 => by rw [u a (by omega)]; exact g a (by omega) (by omega))⟩, ⟨?_, ?_, ?_⟩, hB.fr (fun a q1 q2 => by rw [u a (by omega)]; exact g a (by omega) (by omega)), ⟨?_, ?_, fun j hj => ?_, ?_⟩, ?_, ?_, ?_⟩
      · rw [u 1 (by decide), g 1 (by decide) (by decide)]; exact t1
      · rw [u 2 (by decide), g 2 (by decide) (by decide)]; exact t2
      · rw [u 1 (by decide), g 1 (by decide) (by decide)]; exact t3
      · rw [u 39 (by decide)]; exact f3
      · rw [u 39 (by decide)]; exact f4
      · have hj1 : j < s.wn - 1 := hj
        rw [u 40 (by decide), g 40 (by decide) (by decide)]; exact p3 j (by omega)
      · rw [u 41 (by decide), u 42 (by decide), g 41 (by decide) (by decide), g 42 (by decide) (by decide)]; exact p4
      · rw [up2_s]; exact upd_s
      · rw [up2_s, upd_n (by decide), g 0 (by decide) (by decide)]; exact r2
      · rw [up2_s, upd_n (by decide), g 0 (by decide) (by decide)]; exact r3
    refine V_if_ne 16 14 rfl dX10_undo_11 rfl (fun c11 => ?_) (fun c11 => absurd c11 (by decide))
    refine V_aload_n 17 0 rfl _ rfl rfl dX10_undo_16 rfl ?_
    refine V_iconst 18 (0) rfl dX10_undo_17 rfl ?_
    refine V_putI 21 0 10 12 flX10_124 rfl rfl rfl (by decide) rfl dX10_undo_18 rfl ?_
    refine V_aload_n 22 0 rfl _ rfl rfl dX10_undo_21 rfl ?_
    refine V_getR 25 0 10 5 39 (hRS 0 5 (by decide)) flX10_43 rfl rfl rfl (by decide) dX10_undo_22 rfl ?_
    refine V_getI 28 39 4 3 (nI (s.wn - 1)) (by rw [up2_n _ _ _ (by decide)]; exact f3) flX10_131 rfl rfl rfl (by decide) dX10_undo_25 rfl ?_
    refine V_ret_i rfl rfl (Nat.le_of_ble_eq_true rfl) (fun h => absurd h (by decide)) (Nat.le_of_ble_eq_true rfl) (hq _ R ⟨c, l, b, hx⟩ ⟨fun a ha => by rw [up2_n _ _ _ (by omega)]; exact g a (by omega) (by omega), fun _ => rfl⟩) dX10_undo_28
theorem c_X10_image {G : Gx} {d : Nat} {I : FI} {R : FR} {J : FJ} {Q : Po} {s : SG} (hX : SC I R s) (hS : SI s) (hq : HC I R J Q (imageT s)) : Cc G mX10_image (d + 900) 0 0 [rf G 0] 103 I R J Q := by
  obtain ⟨c, l, b, hXx⟩ := hX
  obtain ⟨⟨hRS, hc, hl, hb, hC, hW, hD, hI, hL⟩, ⟨t1, t2, t3⟩, hB, ⟨p1, p2, p3, p4⟩, r1, r2, r3⟩ := id hXx
  obtain ⟨s1, s2, s3, s4, s5, s6, s7, s8, s9, s10⟩ := hS
  obtain ⟨c2, ec2⟩ : ∃ c2, c2 = 55 - c := ⟨_, rfl⟩
  obtain ⟨l2, el2⟩ : ∃ l2, l2 = 69 - l := ⟨_, rfl⟩
  obtain ⟨b2, eb2⟩ : ∃ b2, b2 = 129 - b := ⟨_, rfl⟩
  have hc2 : c2 = 4 ∨ c2 = 51 := by omega
  have hl2 : l2 = 11 ∨ l2 = 58 := by omega
  have hb2 : b2 = 63 ∨ b2 = 66 := by omega
  have hRK := hRS.K
  have hR08 : R 0 8 = some c2 := (hRS 0 8 (by decide)).trans (by rw [ec2]; rfl)
  have hR09 : R 0 9 = some l2 := (hRS 0 9 (by decide)).trans (by rw [el2]; rfl)
  have hR0b : R 0 11 = some b2 := (hRS 0 11 (by decide)).trans (by rw [eb2]; rfl)
  have hR3c : R 3 0 = some c := hRS 3 0 (by decide)
  have hR3l : R 3 1 = some l := hRS 3 1 (by decide)
  unfold imageT at hq
  show V _ _ _ _ _ _ _ _ [(0, rf G 0)] [] _ _ _ _ _
  refine V_aload_n 1 0 rfl _ rfl rfl dX10_image_0 rfl ?_
  refine V_getR 4 0 10 5 39 (hRS 0 5 (by decide)) flX10_43 rfl rfl rfl (by decide) dX10_image_1 rfl ?_
  refine V_aload_n 5 0 rfl _ rfl rfl dX10_image_4 rfl ?_
  refine V_getR 8 0 10 2 18 (hRS 0 2 (by decide)) flX10_26 rfl rfl rfl (by decide) dX10_image_5 rfl ?_
  refine V_callV (K' := 0) (S' := 0) 11 39 4 1 [rf G 18] mkX4_keepImage lkX10_347 (by decide) rfl rfl (by decide) rfl (Nat.le_of_ble_eq_true rfl) (Nat.le_of_ble_eq_true rfl) (Nat.le_of_ble_eq_true rfl) (Nat.le_of_ble_eq_true rfl) rfl rfl dX10_image_8 rfl (c_X4_keepImage hRK hD p1 p2 s7 s9 (fun h0 => ?_) (fun h0 g hg1 hg2 hg3 => ?_))
  · refine Kq_i (k' := 0) (sl' := 0) rfl rfl ?_
    rw [if_pos h0] at hq
    refine V_if_eq 24 14 rfl dX10_image_11 rfl (fun c11 => ?_) (fun c11 => absurd c11 (by decide))
    refine V_iconst 25 (-1) rfl dX10_image_24 rfl ?_
    refine V_ret_i rfl rfl (Nat.le_of_ble_eq_true rfl) (fun h => absurd h (by decide)) (Nat.le_of_ble_eq_true rfl) (hq I R ⟨c, l, b, hXx⟩ ⟨fun _ _ => rfl, fun _ => rfl⟩) dX10_image_25
  · refine Kq_i (k' := 0) (sl' := 0) rfl rfl ?_
    rw [if_neg (by omega)] at hq
    obtain ⟨B, eB⟩ : ∃ B, B = up2 (up2 (upA I 41 g) 42 s.mn (nI s.wn)) 39 4 (nI (s.mn + 1)) := ⟨_, rfl⟩
    rw [← eB]
    have u : ∀ a, a ≠ 39 → a ≠ 42 → a ≠ 41 → B a = I a := fun a h1 h2 h3 => by rw [eB, up2_n _ _ _ h1, up2_n _ _ _ h2, upA_n h3]
    have f4 : B 39 4 = nI (s.mn + 1) := by rw [eB, up2_s]; exact upd_s
    have f3 : B 39 3 = nI s.wn := by rw [eB, up2_s, upd_n (by decide), up2_n _ _ _ (by decide), upA_n (by decide)]; exact p1
    have f41 : B 41 = g := by rw [eB, up2_n _ _ _ (by decide), up2_n _ _ _ (by decide), upA_s]
    have f42 : B 42 = upd (I 42) s.mn (nI s.wn) := by rw [eB, up2_n _ _ _ (by decide), up2_s, upA_n (by decide)]
    have hx : SCx B R c l b (mkS s.K s.f s.D s.t s.tn s.nb s.bk s.wn s.W (s.mn + 1) (fun i => if i = s.mn then s.D else s.M i) (fun i => if i = s.mn then s.wn else s.mw i) (fun i => if i = s.mn then s.W else s.MW i) s.rs s.fl s.mi s.wr) := by
      refine ⟨⟨hRS, hc, hl, hb, hC.fr (fun a q1 q2 => u a (by omega) (by omega) (by omega)), hW, hD.fr (fun a q1 q2 => u a (by omega) (by omega) (by omega)), hI, hL.fr (fun a q1 q2 => u a (by omega) (by omega) (by omega))⟩, ⟨?_, ?_, ?_⟩, hB.fr (fun a q1 q2 => u a (by omega) (by omega) (by omega)), ⟨f3, f4, ?_, fun i hi => ?_⟩, ?_, ?_, ?_⟩
      · rw [u 1 (by decide) (by decide) (by decide)]; exact t1
      · rw [u 2 (by decide) (by decide) (by decide)]; exact t2
      · rw [u 1 (by decide) (by decide) (by decide)]; exact t3
      · rw [u 40 (by decide) (by decide) (by decide)]; exact p3
      · have hi1 : i < s.mn + 1 := hi
        rw [f41, f42]
        show upd (I 42) s.mn (nI s.wn) i = nI (if i = s.mn then s.wn else s.mw i) ∧ RowC g (i * 782 + 736) (if i = s.mn then s.D else s.M i) ∧ ∀ j, j < (if i = s.mn then s.wn else s.mw i) → RowC g (i * 782 + j * 46) ((if i = s.mn then s.W else s.MW i) j)
        by_cases q : i = s.mn
        · subst q
          rw [if_pos rfl, if_pos rfl, if_pos rfl, upd_s]
          refine ⟨rfl, hg1, fun j hj => (p3 j hj).cg (fun k hk => ?_)⟩
          rw [Nat.add_assoc]; exact hg2 _ (by omega)
        · rw [if_neg q, if_neg q, if_neg q, upd_n q]
          obtain ⟨y1, y2, y3⟩ := p4 i (by omega)
          have y4 := (s10 i (by omega)).2.1
          refine ⟨y1, y2.cg (fun k hk => hg3 _ (by omega)), fun j hj => (y3 j hj).cg (fun k hk => hg3 _ (by omega))⟩
      · rw [u 0 (by decide) (by decide) (by decide)]; exact r1
      · rw [u 0 (by decide) (by decide) (by decide)]; exact r2
      · rw [u 0 (by decide) (by decide) (by decide)]; exact r3
    refine V_if_eq 24 14 rfl dX10_image_11 rfl (fun c11 => absurd c11 (by decide)) (fun c11 => ?_)
    refine V_aload_n 15 0 rfl _ rfl rfl dX10_image_14 rfl ?_
    refine V_getR 18 0 10 5 39 (hRS 0 5 (by decide)) flX10_43 rfl rfl rfl (by decide) dX10_image_15 rfl ?_
    refine V_getI 21 39 4 4 (nI (s.mn + 1)) f4 flX10_350 rfl rfl rfl (by decide) dX10_image_18 rfl ?_
    refine V_goto 25 rfl dX10_image_21 ?_
    refine V_ret_i rfl rfl (Nat.le_of_ble_eq_true rfl) (fun h => absurd h (by decide)) (Nat.le_of_ble_eq_true rfl) (hq _ R ⟨c, l, b, hx⟩ ⟨fun a ha => u a (by omega) (by omega) (by omega), fun _ => rfl⟩) dX10_image_25
theorem c_X10_restore {G : Gx} {d : Nat} {I : FI} {R : FR} {J : FJ} {Q : Po} {s : SG} (hX : SC I R s) (hS : SI s) (hq : HC I R J Q (restT s)) : Cc G mX10_restore (d + 900) 0 0 [rf G 0] 103 I R J Q := by
  obtain ⟨c, l, b, hXx⟩ := hX
  obtain ⟨⟨hRS, hc, hl, hb, hC, hW, hD, hI, hL⟩, ⟨t1, t2, t3⟩, hB, ⟨p1, p2, p3, p4⟩, r1, r2, r3⟩ := id hXx
  obtain ⟨s1, s2, s3, s4, s5, s6, s7, s8, s9, s10⟩ := hS
  obtain ⟨c2, ec2⟩ : ∃ c2, c2 = 55 - c := ⟨_, rfl⟩
  obtain ⟨l2, el2⟩ : ∃ l2, l2 = 69 - l := ⟨_, rfl⟩
  obtain ⟨b2, eb2⟩ : ∃ b2, b2 = 129 - b := ⟨_, rfl⟩
  have hc2 : c2 = 4 ∨ c2 = 51 := by omega
  have hl2 : l2 = 11 ∨ l2 = 58 := by omega
  have hb2 : b2 = 63 ∨ b2 = 66 := by omega
  have hRK := hRS.K
  have hR08 : R 0 8 = some c2 := (hRS 0 8 (by decide)).trans (by rw [ec2]; rfl)
  have hR09 : R 0 9 = some l2 := (hRS 0 9 (by decide)).trans (by rw [el2]; rfl)
  have hR0b : R 0 11 = some b2 := (hRS 0 11 (by decide)).trans (by rw [eb2]; rfl)
  have hR3c : R 3 0 = some c := hRS 3 0 (by decide)
  have hR3l : R 3 1 = some l := hRS 3 1 (by decide)
  unfold restT at hq
  show V _ _ _ _ _ _ _ _ [(0, rf G 0)] [] _ _ _ _ _
  refine V_aload_n 1 0 rfl _ rfl rfl dX10_restore_0 rfl ?_
  refine V_getR 4 0 10 5 39 (hRS 0 5 (by decide)) flX10_43 rfl rfl rfl (by decide) dX10_restore_1 rfl ?_
  refine V_aload_n 5 0 rfl _ rfl rfl dX10_restore_4 rfl ?_
  refine V_getR 8 0 10 2 18 (hRS 0 2 (by decide)) flX10_26 rfl rfl rfl (by decide) dX10_restore_5 rfl ?_
  refine V_callV (K' := 0) (S' := 0) 11 39 4 1 [rf G 18] mkX4_dropImage lkX10_353 (by decide) rfl rfl (by decide) rfl (Nat.le_of_ble_eq_true rfl) (Nat.le_of_ble_eq_true rfl) (Nat.le_of_ble_eq_true rfl) (Nat.le_of_ble_eq_true rfl) rfl rfl dX10_restore_8 rfl (c_X4_dropImage hRK (D := s.M (s.mn - 1)) (wn := s.mw (s.mn - 1)) p2 s9 (fun h => ⟨(p4 _ (by omega)).1, (s10 _ (by omega)).2.1, (p4 _ (by omega)).2.1⟩) (fun h0 => ?_) (fun h0 I2 hD2 f40 f3 f4 g => ?_))
  · refine Kq_i (k' := 0) (sl' := 0) rfl rfl ?_
    rw [if_pos h0] at hq
    refine V_if_ne 16 14 rfl dX10_restore_11 rfl (fun c11 => absurd c11 (by decide)) (fun c11 => ?_)
    refine V_iconst 15 (-1) rfl dX10_restore_14 rfl ?_
    refine V_ret_i rfl rfl (Nat.le_of_ble_eq_true rfl) (fun h => absurd h (by decide)) (Nat.le_of_ble_eq_true rfl) (hq I R ⟨c, l, b, hXx⟩ ⟨fun _ _ => rfl, fun _ => rfl⟩) dX10_restore_15
  · refine Kq_i (k' := 0) (sl' := 0) rfl rfl ?_
    rw [if_neg (by omega)] at hq
    have hx : SCx (up2 I2 0 12 0) R c l b (mkS s.K s.f (s.M (s.mn - 1)) s.t s.tn s.nb s.bk (s.mw (s.mn - 1)) (s.MW (s.mn - 1)) (s.mn - 1) s.M s.mw s.MW 0 s.fl s.mi s.wr) := by
      have u : ∀ a, a ≠ 0 → up2 I2 0 12 0 a = I2 a := fun a h => up2_n _ _ _ h
      have y4 := s10 (s.mn - 1) (by omega)
      refine ⟨⟨hRS, hc, hl, hb, hC.fr (fun a q1 q2 => by rw [u a (by omega)]; exact g a (by omega) (by omega) (by omega)), hW, hD2.fr (fun a q1 q2 => u a (by omega)), y4.1.1, hL.fr (fun a q1 q2 => by rw [u a (by omega)]; exact g a (by omega) (by omega) (by omega))⟩, ⟨?_, ?_, ?_⟩, hB.fr (fun a q1 q2 => by rw [u a (by omega)]; exact g a (by omega) (by omega) (by omega)), ⟨?_, ?_, fun j hj => ?_, fun i hi => ?_⟩, ?_, ?_, ?_⟩
      · rw [u 1 (by decide), g 1 (by decide) (by decide) (by decide)]; exact t1
      · rw [u 2 (by decide), g 2 (by decide) (by decide) (by decide)]; exact t2
      · rw [u 1 (by decide), g 1 (by decide) (by decide) (by decide)]; exact t3
      · rw [u 39 (by decide)]; exact f3
      · rw [u 39 (by decide)]; exact f4
      · rw [u 40 (by decide)]
        have hj1 : j < s.mw (s.mn - 1) := hj
        exact ((p4 (s.mn - 1) (by omega)).2.2 j hj1).cg (fun k hk => by rw [f40 _ (by omega), Nat.add_assoc])
      · have hi1 : i < s.mn - 1 := hi
        rw [u 41 (by decide), u 42 (by decide), g 41 (by decide) (by decide) (by decide), g 42 (by decide) (by decide) (by decide)]; exact p4 i (by omega)
      · rw [up2_s]; exact upd_s
      · rw [up2_s, upd_n (by decide), g 0 (by decide) (by decide) (by decide)]; exact r2
      · rw [up2_s, upd_n (by decide), g 0 (by decide) (by decide) (by decide)]; exact r3
    refine V_if_ne 16 14 rfl dX10_restore_11 rfl (fun c11 => ?_) (fun c11 => absurd c11 (by decide))
    refine V_aload_n 17 0 rfl _ rfl rfl dX10_restore_16 rfl ?_
    refine V_iconst 18 (0) rfl dX10_restore_17 rfl ?_
    refine V_putI 21 0 10 12 flX10_124 rfl rfl rfl (by decide) rfl dX10_restore_18 rfl ?_
    refine V_aload_n 22 0 rfl _ rfl rfl dX10_restore_21 rfl ?_
    refine V_getR 25 0 10 5 39 (hRS 0 5 (by decide)) flX10_43 rfl rfl rfl (by decide) dX10_restore_22 rfl ?_
    refine V_getI 28 39 4 4 (nI (s.mn - 1)) (by rw [up2_n _ _ _ (by decide)]; exact f4) flX10_350 rfl rfl rfl (by decide) dX10_restore_25 rfl ?_
    refine V_ret_i rfl rfl (Nat.le_of_ble_eq_true rfl) (fun h => absurd h (by decide)) (Nat.le_of_ble_eq_true rfl) (hq _ R ⟨c, l, b, hx⟩ ⟨fun a ha => by rw [up2_n _ _ _ (by omega)]; exact g a (by omega) (by omega) (by omega), fun _ => rfl⟩) dX10_restore_28
theorem c_X10_status {G : Gx} {d : Nat} {I : FI} {R : FR} {J : FJ} {Q : Po} {s : SG} (hX : SC I R s) (hS : SI s) {x : Int32} (hq : HC I R J Q (statT s x)) : Cc G mX10_status (d + 900) 0 0 [rf G 0, .int x] 103 I R J Q := by
  obtain ⟨c, l, b, hXx⟩ := hX
  obtain ⟨⟨hRS, hc, hl, hb, hC, hW, hD, hI, hL⟩, ⟨t1, t2, t3⟩, hB, ⟨p1, p2, p3, p4⟩, r1, r2, r3⟩ := id hXx
  obtain ⟨s1, s2, s3, s4, s5, s6, s7, s8, s9, s10⟩ := hS
  obtain ⟨c2, ec2⟩ : ∃ c2, c2 = 55 - c := ⟨_, rfl⟩
  obtain ⟨l2, el2⟩ : ∃ l2, l2 = 69 - l := ⟨_, rfl⟩
  obtain ⟨b2, eb2⟩ : ∃ b2, b2 = 129 - b := ⟨_, rfl⟩
  have hc2 : c2 = 4 ∨ c2 = 51 := by omega
  have hl2 : l2 = 11 ∨ l2 = 58 := by omega
  have hb2 : b2 = 63 ∨ b2 = 66 := by omega
  have hRK := hRS.K
  have hR08 : R 0 8 = some c2 := (hRS 0 8 (by decide)).trans (by rw [ec2]; rfl)
  have hR09 : R 0 9 = some l2 := (hRS 0 9 (by decide)).trans (by rw [el2]; rfl)
  have hR0b : R 0 11 = some b2 := (hRS 0 11 (by decide)).trans (by rw [eb2]; rfl)
  have hR3c : R 3 0 = some c := hRS 3 0 (by decide)
  have hR3l : R 3 1 = some l := hRS 3 1 (by decide)
  replace hq := hq I R ⟨c, l, b, hXx⟩ ⟨fun _ _ => rfl, fun _ => rfl⟩
  replace hq : Q (.inl (some (.int (if x = 0 then s.mi else if x = 1 then s.wr else -1)))) 103 I R J := hq
  show V _ _ _ _ _ _ _ _ [(0, rf G 0), (1, .int x)] [] _ _ _ _ _
  refine V_iload_n 1 1 rfl rfl dX10_status_0 rfl ?_
  refine V_if_ne 11 4 rfl dX10_status_1 rfl (fun c1 => ?_) (fun c1 => ?_)
  · refine V_iload_n 12 1 rfl rfl dX10_status_11 rfl ?_
    refine V_iconst 13 (1) rfl dX10_status_12 rfl ?_
    refine V_icmp_ne 23 16 rfl dX10_status_13 rfl (fun c13 => ?_) (fun c13 => ?_)
    · refine V_iconst 24 (-1) rfl dX10_status_23 rfl ?_
      refine V_ret_i rfl rfl (Nat.le_of_ble_eq_true rfl) (fun h => absurd h (by decide)) (Nat.le_of_ble_eq_true rfl) (by rw [if_neg c1, if_neg c13] at hq; exact hq) dX10_status_24
    · refine V_aload_n 17 0 rfl _ rfl rfl dX10_status_16 rfl ?_
      refine V_getI 20 0 10 14 s.wr r3 flX10_359 rfl rfl rfl (by decide) dX10_status_17 rfl ?_
      refine V_goto 24 rfl dX10_status_20 ?_
      refine V_ret_i rfl rfl (Nat.le_of_ble_eq_true rfl) (fun h => absurd h (by decide)) (Nat.le_of_ble_eq_true rfl) (by rw [if_neg c1, if_pos (by first | exact c13 | exact Classical.not_not.mp c13)] at hq; exact hq) dX10_status_24
  · refine V_aload_n 5 0 rfl _ rfl rfl dX10_status_4 rfl ?_
    refine V_getI 8 0 10 13 s.mi r2 flX10_356 rfl rfl rfl (by decide) dX10_status_5 rfl ?_
    refine V_goto 24 rfl dX10_status_8 ?_
    refine V_ret_i rfl rfl (Nat.le_of_ble_eq_true rfl) (fun h => absurd h (by decide)) (Nat.le_of_ble_eq_true rfl) (by rw [if_pos (by first | exact c1 | exact Classical.not_not.mp c1)] at hq; exact hq) dX10_status_24
theorem c_X10_count {G : Gx} {d : Nat} {I : FI} {R : FR} {J : FJ} {Q : Po} {s : SG} (hX : SC I R s) (hS : SI s) {x : Int32} (hq : HC I R J Q (cntT s x)) : Cc G mX10_count (d + 900) 0 0 [rf G 0, .int x] 103 I R J Q := by
  obtain ⟨c, l, b, hXx⟩ := hX
  obtain ⟨⟨hRS, hc, hl, hb, hC, hW, hD, hI, hL⟩, ⟨t1, t2, t3⟩, hB, ⟨p1, p2, p3, p4⟩, r1, r2, r3⟩ := id hXx
  obtain ⟨s1, s2, s3, s4, s5, s6, s7, s8, s9, s10⟩ := hS
  obtain ⟨c2, ec2⟩ : ∃ c2, c2 = 55 - c := ⟨_, rfl⟩
  obtain ⟨l2, el2⟩ : ∃ l2, l2 = 69 - l := ⟨_, rfl⟩
  obtain ⟨b2, eb2⟩ : ∃ b2, b2 = 129 - b := ⟨_, rfl⟩
  have hc2 : c2 = 4 ∨ c2 = 51 := by omega
  have hl2 : l2 = 11 ∨ l2 = 58 := by omega
  have hb2 : b2 = 63 ∨ b2 = 66 := by omega
  have hRK := hRS.K
  have hR08 : R 0 8 = some c2 := (hRS 0 8 (by decide)).trans (by rw [ec2]; rfl)
  have hR09 : R 0 9 = some l2 := (hRS 0 9 (by decide)).trans (by rw [el2]; rfl)
  have hR0b : R 0 11 = some b2 := (hRS 0 11 (by decide)).trans (by rw [eb2]; rfl)
  have hR3c : R 3 0 = some c := hRS 3 0 (by decide)
  have hR3l : R 3 1 = some l := hRS 3 1 (by decide)
  replace hq := hq I R ⟨c, l, b, hXx⟩ ⟨fun _ _ => rfl, fun _ => rfl⟩
  replace hq : Q (.inl (some (.int (if x = 0 then nI s.mn else if x = 1 then nI s.tn else if x = 2 then nI s.wn else -1)))) 103 I R J := hq
  show V _ _ _ _ _ _ _ _ [(0, rf G 0), (1, .int x)] [] _ _ _ _ _
  refine V_iload_n 1 1 rfl rfl dX10_count_0 rfl ?_
  refine V_if_ne 14 4 rfl dX10_count_1 rfl (fun c1 => ?_) (fun c1 => ?_)
  · refine V_iload_n 15 1 rfl rfl dX10_count_14 rfl ?_
    refine V_iconst 16 (1) rfl dX10_count_15 rfl ?_
    refine V_icmp_ne 29 19 rfl dX10_count_16 rfl (fun c16 => ?_) (fun c16 => ?_)
    · refine V_iload_n 30 1 rfl rfl dX10_count_29 rfl ?_
      refine V_iconst 31 (2) rfl dX10_count_30 rfl ?_
      refine V_icmp_ne 44 34 rfl dX10_count_31 rfl (fun c31 => ?_) (fun c31 => ?_)
      · refine V_iconst 45 (-1) rfl dX10_count_44 rfl ?_
        refine V_ret_i rfl rfl (Nat.le_of_ble_eq_true rfl) (fun h => absurd h (by decide)) (Nat.le_of_ble_eq_true rfl) (by rw [if_neg c1, if_neg c16, if_neg c31] at hq; exact hq) dX10_count_45
      · refine V_aload_n 35 0 rfl _ rfl rfl dX10_count_34 rfl ?_
        refine V_getR 38 0 10 5 39 (hRS 0 5 (by decide)) flX10_43 rfl rfl rfl (by decide) dX10_count_35 rfl ?_
        refine V_getI 41 39 4 3 (nI s.wn) p1 flX10_131 rfl rfl rfl (by decide) dX10_count_38 rfl ?_
        refine V_goto 45 rfl dX10_count_41 ?_
        refine V_ret_i rfl rfl (Nat.le_of_ble_eq_true rfl) (fun h => absurd h (by decide)) (Nat.le_of_ble_eq_true rfl) (by rw [if_neg c1, if_neg c16, if_pos (by first | exact c31 | exact Classical.not_not.mp c31)] at hq; exact hq) dX10_count_45
    · refine V_aload_n 20 0 rfl _ rfl rfl dX10_count_19 rfl ?_
      refine V_getR 23 0 10 0 1 (hRS 0 0 (by decide)) flX10_10 rfl rfl rfl (by decide) dX10_count_20 rfl ?_
      refine V_getI 26 1 8 1 (nI s.tn) t1 flX10_92 rfl rfl rfl (by decide) dX10_count_23 rfl ?_
      refine V_goto 45 rfl dX10_count_26 ?_
      refine V_ret_i rfl rfl (Nat.le_of_ble_eq_true rfl) (fun h => absurd h (by decide)) (Nat.le_of_ble_eq_true rfl) (by rw [if_neg c1, if_pos (by first | exact c16 | exact Classical.not_not.mp c16)] at hq; exact hq) dX10_count_45
  · refine V_aload_n 5 0 rfl _ rfl rfl dX10_count_4 rfl ?_
    refine V_getR 8 0 10 5 39 (hRS 0 5 (by decide)) flX10_43 rfl rfl rfl (by decide) dX10_count_5 rfl ?_
    refine V_getI 11 39 4 4 (nI s.mn) p2 flX10_350 rfl rfl rfl (by decide) dX10_count_8 rfl ?_
    refine V_goto 45 rfl dX10_count_11 ?_
    refine V_ret_i rfl rfl (Nat.le_of_ble_eq_true rfl) (fun h => absurd h (by decide)) (Nat.le_of_ble_eq_true rfl) (by rw [if_pos (by first | exact c1 | exact Classical.not_not.mp c1)] at hq; exact hq) dX10_count_45
theorem c_X10_fault {G : Gx} {d : Nat} {I : FI} {R : FR} {J : FJ} {Q : Po} {s : SG} (hX : SC I R s) (hS : SI s) (hq : HC I R J Q (fltT s)) : Cc G mX10_fault (d + 900) 0 0 [rf G 0] 103 I R J Q := by
  obtain ⟨c, l, b, hXx⟩ := hX
  obtain ⟨⟨hRS, hc, hl, hb, hC, hW, hD, hI, hL⟩, ⟨t1, t2, t3⟩, hB, ⟨p1, p2, p3, p4⟩, r1, r2, r3⟩ := id hXx
  obtain ⟨s1, s2, s3, s4, s5, s6, s7, s8, s9, s10⟩ := hS
  obtain ⟨c2, ec2⟩ : ∃ c2, c2 = 55 - c := ⟨_, rfl⟩
  obtain ⟨l2, el2⟩ : ∃ l2, l2 = 69 - l := ⟨_, rfl⟩
  obtain ⟨b2, eb2⟩ : ∃ b2, b2 = 129 - b := ⟨_, rfl⟩
  have hc2 : c2 = 4 ∨ c2 = 51 := by omega
  have hl2 : l2 = 11 ∨ l2 = 58 := by omega
  have hb2 : b2 = 63 ∨ b2 = 66 := by omega
  have hRK := hRS.K
  have hR08 : R 0 8 = some c2 := (hRS 0 8 (by decide)).trans (by rw [ec2]; rfl)
  have hR09 : R 0 9 = some l2 := (hRS 0 9 (by decide)).trans (by rw [el2]; rfl)
  have hR0b : R 0 11 = some b2 := (hRS 0 11 (by decide)).trans (by rw [eb2]; rfl)
  have hR3c : R 3 0 = some c := hRS 3 0 (by decide)
  have hR3l : R 3 1 = some l := hRS 3 1 (by decide)
  replace hq := hq I R ⟨c, l, b, hXx⟩ ⟨fun _ _ => rfl, fun _ => rfl⟩
  show V _ _ _ _ _ _ _ _ [(0, rf G 0)] [] _ _ _ _ _
  refine V_aload_n 1 0 rfl _ rfl rfl dX10_fault_0 rfl ?_
  refine V_getR 4 0 10 0 1 (hRS 0 0 (by decide)) flX10_10 rfl rfl rfl (by decide) dX10_fault_1 rfl ?_
  refine V_getI 7 1 8 8 s.fl t3 flX10_151 rfl rfl rfl (by decide) dX10_fault_4 rfl ?_
  refine V_ret_i rfl rfl (Nat.le_of_ble_eq_true rfl) (fun h => absurd h (by decide)) (Nat.le_of_ble_eq_true rfl) (hq) dX10_fault_7
