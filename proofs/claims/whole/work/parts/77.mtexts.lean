/-! ===== the reference: texts ===== -/
theorem ckT_iff {x : Int32} {tn most : Nat} (h6 : tn ≤ 600) (hm : most ≤ 600) : ckT x tn most ↔ 0 ≤ x ∧ x ≤ nI tn ∧ x ≤ nI most := by
  unfold ckT
  by_cases q : tn ≤ most
  · rw [Nat.min_eq_left q]
    exact ⟨fun h => ⟨h.1, h.2, Int32.le_trans h.2 (nI_le q (by omega))⟩, fun h => ⟨h.1, h.2.1⟩⟩
  · rw [Nat.min_eq_right (by omega)]
    exact ⟨fun h => ⟨h.1, Int32.le_trans h.2 (nI_le (by omega) (by omega)), h.2⟩, fun h => ⟨h.1, h.2.2⟩⟩
theorem ox_self {I : FI} (h : I 69 7 = nI 0) : I = ox I 0 := by
  unfold ox
  funext o
  by_cases q : o = 69
  · subst q; rw [up2_s]; funext j
    by_cases e : j = 7
    · subst e; rw [upd_s]; exact h
    · rw [upd_n e]
  · rw [up2_n _ _ _ q]
/-- a refusal -/
theorem SM.no {I I0 : FI} {R : FR} {J : FJ} {Q : Po} {s : SG} {cd : Nat} (hX : SM I0 R s) (i0 : ∀ a, a ≠ 69 → I0 a = I a) (h : HR I R J Q cd (.inr 1, bump 1 s)) (hc : cd = 1) : Q (.inl (some (.int 0))) 103 (up2 (up2 I0 69 0 (nI 1)) 70 1 (I0 70 1 + 1)) R J := by
  subst hc
  refine h _ (hX.x (by decide) (fun a h1 h2 => ?_) (fun j h1 => ?_) ?_) (fun a ha => ?_) ?_ ?_
  · rw [up2_n _ _ _ h2, up2_n _ _ _ h1]
  · rw [up2_n _ _ _ (by decide), up2_s, upd_n h1]
  · rw [up2_s, up2_n _ _ _ (by decide)]
  · rw [up2_n _ _ _ (by omega), up2_n _ _ _ (by omega)]; exact i0 a (by omega)
  · rw [up2_n _ _ _ (by decide), up2_s]; exact upd_s
  · rw [up2_n _ _ _ (by decide), up2_n _ _ _ (by decide)]; exact i0 102 (by decide)
theorem c_X11_coast {G : Gx} {d : Nat} {I : FI} {R : FR} {J : FJ} {Q : Po} {s : SG} (hX : SM I R s) (hS : SI s) {x : Int32} (hq : HR I R J Q 1 (coastT s x)) : Cc G mX11_coast (d + 900) 0 0 [rf G 69, .int x] 103 I R J Q := by
  obtain ⟨I0, hI0⟩ : ∃ I0, I0 = up2 I 69 0 0 := ⟨_, rfl⟩
  have hz := FrM.z hI0
  have hX0 := hX.q hz
  obtain ⟨⟨hRM, m2, m3, m4, m5, m6, m7⟩, ⟨t1, t2, t3⟩, ⟨b1, b2⟩, ⟨p1, p2, p3, p4⟩, r1, r2, r3⟩ := id hX0
  obtain ⟨s1, s2, s3, s4, s5, s6, s7, s8, s9, s10⟩ := hS
  have ht : I0 69 0 = 0 := hz.2.1
  have i0 : ∀ a, a ≠ 69 → I0 a = I a := fun a h => by rw [hI0]; exact up2_n _ _ _ h
  have fr : ∀ {A : FI}, (∀ a, a ≠ 69 → (a < 72 ∨ 75 < a) → a ≠ 80 → a ≠ 81 → a ≠ 86 → a ≠ 92 → A a = I0 a) → (∀ j, j ≠ 2 → j ≠ 3 → j ≠ 4 → j ≠ 5 → j ≠ 6 → j ≠ 7 → j ≠ 8 → j ≠ 18 → j ≠ 19 → j ≠ 20 → j ≠ 29 → j ≠ 34 → A 69 j = I0 69 j) → A 69 2 = 0 → ∀ v, A 69 8 = v → SM A R (txB s v) ∧ (∀ a, a < 69 → A a = I a) ∧ A 69 0 = 0 ∧ A 102 = I 102 := fun {A} g z h2 v h8 => ⟨hX0.fr (tn' := 0) (fun a ha => g a (by omega) (by omega) (by omega) (by omega) (by omega) (by omega)) (fun j hj => z j (by omega) (by omega) (by omega) (by omega) (by omega) (by omega) (by omega) (by omega) (by omega) (by omega) (by omega) (by omega)) h2 h8, fun a ha => by rw [g a (by omega) (by omega) (by omega) (by omega) (by omega) (by omega)]; exact i0 a (by omega), by rw [z 0 (by decide) (by decide) (by decide) (by decide) (by decide) (by decide) (by decide) (by decide) (by decide) (by decide) (by decide) (by decide)]; exact ht, by rw [g 102 (by decide) (by decide) (by decide) (by decide) (by decide) (by decide)]; exact i0 102 (by decide)⟩
  show V _ _ _ _ _ _ _ _ [(0, rf G 69), (1, .int x)] [] _ _ _ _ _
  refine V_aload_n 1 0 rfl _ rfl rfl dX11_coast_0 rfl ?_
  refine V_iconst 2 (0) rfl dX11_coast_1 rfl ?_
  refine V_putI 5 69 11 0 flX11_3 rfl rfl rfl (by decide) rfl dX11_coast_2 rfl ?_
  rw [← hI0]
  refine V_aload_n 6 0 rfl _ rfl rfl dX11_coast_5 rfl ?_
  refine V_iload_n 7 1 rfl rfl dX11_coast_6 rfl ?_
  refine V_if_lt 22 10 rfl dX11_coast_7 rfl (fun c7 => ?_) (fun c7 => ?_)
  · refine V_iconst 23 (0) rfl dX11_coast_22 rfl ?_
    refine V_iconst 24 (1) rfl dX11_coast_23 rfl ?_
    refine V_iconst 25 (1) rfl dX11_coast_24 rfl ?_
    refine V_callV (K' := 0) (S' := 0) 28 69 11 3 [.int 0, .int 1, .int 1] mkX11_may lkX11_216 (by decide) rfl rfl (by decide) rfl (Nat.le_of_ble_eq_true rfl) (Nat.le_of_ble_eq_true rfl) (Nat.le_of_ble_eq_true rfl) (Nat.le_of_ble_eq_true rfl) rfl rfl dX11_coast_25 rfl (c_X11_may (cd := 1) (kd := 1) hRM (by decide) (by decide) (by decide) ht (fun e => absurd rfl e) (fun _ => ?_))
    refine Kq_i (k' := 0) (sl' := 0) rfl rfl ?_
    refine V_if_ne 33 31 rfl dX11_coast_28 rfl (fun c28 => absurd c28 (by decide)) (fun c28 => ?_)
    refine V_iconst 32 (0) rfl dX11_coast_31 rfl ?_
    refine V_ret_i rfl rfl (Nat.le_of_ble_eq_true rfl) (fun h => absurd h (by decide)) (Nat.le_of_ble_eq_true rfl) (hX0.no i0 (by rw [coastT_n (fun q => absurd ((ckT_iff s4 (by decide)).mp q).1 (Int32.not_le.mpr c7))] at hq; exact hq) rfl) dX11_coast_32
  · refine V_iload_n 11 1 rfl rfl dX11_coast_10 rfl ?_
    refine V_aload_n 12 0 rfl _ rfl rfl dX11_coast_11 rfl ?_
    refine V_getI 15 69 11 2 (nI s.tn) t1 flX11_120 rfl rfl rfl (by decide) dX11_coast_12 rfl ?_
    refine V_icmp_gt 22 18 rfl dX11_coast_15 rfl (fun c15 => ?_) (fun c15 => ?_)
    · refine V_iconst 23 (0) rfl dX11_coast_22 rfl ?_
      refine V_iconst 24 (1) rfl dX11_coast_23 rfl ?_
      refine V_iconst 25 (1) rfl dX11_coast_24 rfl ?_
      refine V_callV (K' := 0) (S' := 0) 28 69 11 3 [.int 0, .int 1, .int 1] mkX11_may lkX11_216 (by decide) rfl rfl (by decide) rfl (Nat.le_of_ble_eq_true rfl) (Nat.le_of_ble_eq_true rfl) (Nat.le_of_ble_eq_true rfl) (Nat.le_of_ble_eq_true rfl) rfl rfl dX11_coast_25 rfl (c_X11_may (cd := 1) (kd := 1) hRM (by decide) (by decide) (by decide) ht (fun e => absurd rfl e) (fun _ => ?_))
      refine Kq_i (k' := 0) (sl' := 0) rfl rfl ?_
      refine V_if_ne 33 31 rfl dX11_coast_28 rfl (fun c28 => absurd c28 (by decide)) (fun c28 => ?_)
      refine V_iconst 32 (0) rfl dX11_coast_31 rfl ?_
      refine V_ret_i rfl rfl (Nat.le_of_ble_eq_true rfl) (fun h => absurd h (by decide)) (Nat.le_of_ble_eq_true rfl) (hX0.no i0 (by rw [coastT_n (fun q => absurd ((ckT_iff s4 (by decide)).mp q).2.1 (Int32.not_le.mpr c15))] at hq; exact hq) rfl) dX11_coast_32
    · refine V_iconst 19 (1) rfl dX11_coast_18 rfl ?_
      refine V_goto 23 rfl dX11_coast_19 ?_
      refine V_iconst 24 (1) rfl dX11_coast_23 rfl ?_
      refine V_iconst 25 (1) rfl dX11_coast_24 rfl ?_
      refine V_callV (K' := 0) (S' := 0) 28 69 11 3 [.int 1, .int 1, .int 1] mkX11_may lkX11_216 (by decide) rfl rfl (by decide) rfl (Nat.le_of_ble_eq_true rfl) (Nat.le_of_ble_eq_true rfl) (Nat.le_of_ble_eq_true rfl) (Nat.le_of_ble_eq_true rfl) rfl rfl dX11_coast_25 rfl (c_X11_may (cd := 1) (kd := 1) hRM (by decide) (by decide) (by decide) ht (fun _ => ?_) (fun e => absurd e (by decide)))
      refine Kq_i (k' := 0) (sl' := 0) rfl rfl ?_
      have ck : ckT x s.tn 600 := (ckT_iff s4 (by decide)).mpr ⟨Int32.not_lt.mp c7, Int32.not_lt.mp c15, Int32.le_trans (Int32.not_lt.mp c15) (nI_le s4 (by decide))⟩
      obtain ⟨z, hz, hzm, rfl⟩ := ckT_z s4 ck
      refine V_if_ne 33 31 rfl dX11_coast_28 rfl (fun c28 => ?_) (fun c28 => absurd c28 (by decide))
      refine V_aload_n 34 0 rfl _ rfl rfl dX11_coast_33 rfl ?_
      refine V_iload_n 35 1 rfl rfl dX11_coast_34 rfl ?_
      refine V_callV (K' := 0) (S' := 0) 38 69 11 1 [.int (nI z)] mkX11_begins lkX11_220 (by decide) rfl rfl (by decide) rfl (Nat.le_of_ble_eq_true rfl) (Nat.le_of_ble_eq_true rfl) (Nat.le_of_ble_eq_true rfl) (Nat.le_of_ble_eq_true rfl) rfl rfl dX11_coast_35 rfl (c_X11_begins ?_)
      refine Kq_v (k' := 0) (sl' := 0) rfl rfl ?_
      have hT0 : TxM (BgM I0 (nI z)) s.t z := Bg_T (by omega) t2 s5
      refine V_aload_n 39 0 rfl _ rfl rfl dX11_coast_38 rfl ?_
      refine V_callV (K' := 0) (S' := 0) 42 69 11 0 [] mkX11_clears lkX11_114 (by decide) rfl rfl (by decide) rfl (Nat.le_of_ble_eq_true rfl) (Nat.le_of_ble_eq_true rfl) (Nat.le_of_ble_eq_true rfl) (Nat.le_of_ble_eq_true rfl) rfl rfl dX11_coast_39 rfl (c_X11_clears (by decide) hRM (fun I1 hN1 hY1 => ?_))
      refine Kq_v (k' := 0) (sl' := 0) rfl rfl ?_
      refine V_iconst 43 (0) rfl dX11_coast_42 rfl ?_
      refine V_istore_n 44 [(2, .int 0), (0, rf G 69), (1, .int (nI z))] (by decide) rfl rfl dX11_coast_43 rfl ?_
      have hT1 := hY1.T hT0
      have e1 : I1 = lx I1 0 (-1) (I1 69 6) := lx_self (by rw [hY1.2 4 (by decide) (by decide) (by decide)]; exact Bg_4) (by rw [hY1.2 5 (by decide) (by decide) (by decide)]; exact Bg_5) rfl
      refine V_rwI e1 ?_
      have Z : ∀ {A : FI}, FrY I1 A → (∀ a, a ≠ 69 → (a < 72 ∨ 75 < a) → A a = I0 a) ∧ (∀ j, j ≠ 2 → j ≠ 3 → j ≠ 4 → j ≠ 5 → j ≠ 7 → j ≠ 8 → j ≠ 18 → j ≠ 19 → j ≠ 20 → A 69 j = I0 69 j) ∧ A 69 2 = 0 := fun {A} h => ⟨fun a h1 h2 => by rw [h.1 a h1 h2, hY1.1 a h1 h2]; exact Bg_n h1, fun j h2 h3 h4 h5 h7 h8 q1 q2 q3 => by rw [h.2 j q1 q2 q3, hY1.2 j q1 q2 q3]; exact Bg_69 h2 h3 h4 h5 h7 h8, by rw [h.2 2 (by decide) (by decide) (by decide), hY1.2 2 (by decide) (by decide) (by decide)]; exact Bg_2⟩
      refine V_lv [0, 1] rfl (w_X11_coast (d := d + 890) hRM hT1 (fun K2 I2 a2 k2 eK hN2 hW2 hF2 ha2 => ?_) (fun kd2 q2 I2 a2 eK hk2 hk3 hq2 hF2 ha2 => ?_) 61 0 K0 0 I1 rfl (by decide) (Nat.zero_le _) hN1 K0_W FrY.rf rfl)
      · refine V_aload_n 137 0 rfl _ rfl rfl dX11_coast_136 rfl ?_
        refine V_aload_n 138 0 rfl _ rfl rfl dX11_coast_137 rfl ?_
        refine V_getI 141 69 11 20 (nI (cM K2)) hN2.2.2.1 flX11_172 rfl rfl rfl (by decide) dX11_coast_138 rfl ?_
        refine V_callV (K' := 0) (S' := 0) 144 69 11 1 [.int (nI (cM K2))] mkX11_result lkX11_245 (by decide) rfl rfl (by decide) rfl (Nat.le_of_ble_eq_true rfl) (Nat.le_of_ble_eq_true rfl) (Nat.le_of_ble_eq_true rfl) (Nat.le_of_ble_eq_true rfl) rfl rfl dX11_coast_141 rfl (c_X11_result (fun y1 => ?_) (fun y0 => absurd rfl y0))
        refine Kq_i (k' := 0) (sl' := 0) rfl rfl ?_
        rw [coastT_k s4 hz hzm eK] at hq
        obtain ⟨A, eA⟩ : ∃ A, A = up2 (lx I2 a2 (-1) k2) 69 8 (-1) := ⟨_, rfl⟩
        refine V_rwI (show _ = A from eA.symm) ?_
        have A1 : ∀ a, a ≠ 69 → A a = I2 a := fun a h => by rw [eA, up2_n _ _ _ h, lx_n h]
        have A2 : ∀ j, j ≠ 8 → j ≠ 4 → j ≠ 5 → j ≠ 6 → A 69 j = I2 69 j := fun j h8 h4 h5 h6 => by rw [eA, up2_s, upd_n h8, lx_69 h4 h5 h6]
        have A5 : A 69 5 = -1 := by rw [eA, up2_s, upd_n (by decide)]; rfl
        have A8 : A 69 8 = -1 := by rw [eA, up2_s]; exact upd_s
        have hNA : CoastN A K2 := by
          obtain ⟨n1, n2, n3, n4, n5, n6, n7⟩ := hN2
          refine ⟨?_, ?_, ?_, ?_, ?_, ?_, ?_⟩
          · rw [A2 18 (by decide) (by decide) (by decide) (by decide)]; exact n1
          · rw [A2 19 (by decide) (by decide) (by decide) (by decide)]; exact n2
          · rw [A2 20 (by decide) (by decide) (by decide) (by decide)]; exact n3
          · rw [A1 72 (by decide)]; exact n4
          · rw [A1 73 (by decide)]; exact n5
          · rw [A1 74 (by decide)]; exact n6
          · rw [A1 75 (by decide)]; exact n7
        obtain ⟨z1, z2, z3⟩ := Z hF2
        refine V_istore_n 145 [(3, .int (nI (cM K2))), (0, rf G 69)] (by decide) rfl rfl dX11_coast_144 rfl ?_
        refine V_aload_n 146 1 rfl _ rfl rfl dX11_coast_145 rfl ?_
        refine V_getI 149 69 11 5 (-1) A5 flX11_123 rfl rfl rfl (by decide) dX11_coast_146 rfl ?_
        refine V_iconst 150 (-1) rfl dX11_coast_149 rfl ?_
        refine V_icmp_ne 157 153 rfl dX11_coast_150 rfl (fun c150 => absurd rfl c150) (fun c150 => ?_)
        refine V_aload_n 154 1 rfl _ rfl rfl dX11_coast_153 rfl ?_
        refine V_callV (K' := 0) (S' := 0) 157 69 11 0 [] mkX11_sets lkX11_117 (by decide) rfl rfl (by decide) rfl (Nat.le_of_ble_eq_true rfl) (Nat.le_of_ble_eq_true rfl) (Nat.le_of_ble_eq_true rfl) (Nat.le_of_ble_eq_true rfl) rfl rfl dX11_coast_154 rfl (c_X11_sets (by decide) hRM hNA hW2.1.1 hW2.1.2.1 hW2.1.2.2.1 (fun I3 hM3 => ?_))
        refine Kq_v (k' := 0) (sl' := 0) rfl rfl ?_
        obtain ⟨u1, u30, u46, u35, u56, u36, u93, u88, ua, uj⟩ := hM3
        have va : ∀ a, a ≠ 69 → (a < 72 ∨ 79 < a) → a ≠ 88 → a ≠ 93 → I3 a = I0 a := fun a h1 h2 h3 h4 => by rw [ua a h1 (by omega) h3 h4, A1 a h1]; exact z1 a h1 (by omega)
        have hf : SM I3 R (coS s K2) := by
          refine ⟨⟨hRM, u1, hW2.1, u88, DI_day0 hW2.1, ⟨0, by decide, u30, fun i hi => absurd hi (Nat.not_lt_zero _), fun F => rfl⟩, fun F => clF_R _⟩, ⟨?_, ?_, ?_⟩, ⟨u46, fun h hh => u93 h hh⟩, ⟨u35, u56, fun j hj => absurd hj (Nat.not_lt_zero _), fun j hj => absurd hj (Nat.not_lt_zero _)⟩, u36, ?_, ?_⟩
          · rw [uj 2 (by decide) (by decide) (by decide) (by decide) (by decide) (by decide), A2 2 (by decide) (by decide) (by decide) (by decide)]; exact z3
          · rw [va 71 (by decide) (by decide) (by decide) (by decide)]; exact t2
          · rw [uj 8 (by decide) (by decide) (by decide) (by decide) (by decide) (by decide)]; exact A8
          · rw [va 70 (by decide) (by decide) (by decide) (by decide)]; exact r2
          · rw [va 70 (by decide) (by decide) (by decide) (by decide)]; exact r3
        have h0 : I3 69 0 = 0 := by rw [uj 0 (by decide) (by decide) (by decide) (by decide) (by decide) (by decide), A2 0 (by decide) (by decide) (by decide) (by decide), z2 0 (by decide) (by decide) (by decide) (by decide) (by decide) (by decide) (by decide) (by decide) (by decide)]; exact ht
        refine V_iload_n 158 0 rfl rfl dX11_coast_157 rfl ?_
        refine V_ret_i rfl rfl (Nat.le_of_ble_eq_true rfl) (fun h => absurd h (by decide)) (Nat.le_of_ble_eq_true rfl) (hq I3 hf (fun a ha => by rw [va a (by omega) (by omega) (by omega) (by omega)]; exact i0 a (by omega)) h0 (by rw [va 102 (by decide) (by decide) (by decide) (by decide)]; exact i0 102 (by decide))) dX11_coast_158
      · refine V_aload_n 137 0 rfl _ rfl rfl dX11_coast_136 rfl ?_
        refine V_aload_n 138 0 rfl _ rfl rfl dX11_coast_137 rfl ?_
        refine V_getI 141 69 11 20 (I2 69 20) rfl flX11_172 rfl rfl rfl (by decide) dX11_coast_138 rfl ?_
        refine V_callV (K' := 0) (S' := 0) 144 69 11 1 [.int (I2 69 20)] mkX11_result lkX11_245 (by decide) rfl rfl (by decide) rfl (Nat.le_of_ble_eq_true rfl) (Nat.le_of_ble_eq_true rfl) (Nat.le_of_ble_eq_true rfl) (Nat.le_of_ble_eq_true rfl) rfl rfl dX11_coast_141 rfl (c_X11_result (fun y1 => absurd y1 (nI_ne (j := q2) (by omega))) (fun y0 => ?_))
        refine Kq_i (k' := 0) (sl' := 0) rfl rfl ?_
        rw [coastT_b s4 hz hzm eK] at hq
        obtain ⟨A, eA⟩ : ∃ A, A = up2 (lx I2 a2 (nI q2) (nI kd2)) 69 8 (nI q2) := ⟨_, rfl⟩
        refine V_rwI (show _ = A from eA.symm) ?_
        obtain ⟨z1, z2, z3⟩ := Z hF2
        have A5 : A 69 5 = nI q2 := by rw [eA, up2_s, upd_n (by decide)]; rfl
        have hf := fr (A := A) (fun a h1 h2 _ _ _ _ => by rw [eA, up2_n _ _ _ h1, lx_n h1]; exact z1 a h1 h2) (fun j h2 h3 h4 h5 h6 h7 h8 q1 q2 q3 _ _ => by rw [eA, up2_s, upd_n h8, lx_69 h4 h5 h6]; exact z2 j h2 h3 h4 h5 h7 h8 q1 q2 q3) (by rw [eA, up2_s, upd_n (by decide), lx_69 (by decide) (by decide) (by decide)]; exact z3) (nI q2) (by rw [eA, up2_s]; exact upd_s)
        refine V_istore_n 145 [(3, .int (nI kd2 - 10)), (0, rf G 69)] (by decide) rfl rfl dX11_coast_144 rfl ?_
        refine V_aload_n 146 1 rfl _ rfl rfl dX11_coast_145 rfl ?_
        refine V_getI 149 69 11 5 (nI q2) A5 flX11_123 rfl rfl rfl (by decide) dX11_coast_146 rfl ?_
        refine V_iconst 150 (-1) rfl dX11_coast_149 rfl ?_
        refine V_icmp_ne 157 153 rfl dX11_coast_150 rfl (fun c150 => ?_) (fun c150 => absurd c150 (nI_ne (j := q2) (by omega)))
        refine V_iload_n 158 0 rfl rfl dX11_coast_157 rfl ?_
        refine V_ret_i rfl rfl (Nat.le_of_ble_eq_true rfl) (fun h => absurd h (by decide)) (Nat.le_of_ble_eq_true rfl) (hq A hf.1 hf.2.1 hf.2.2.1 hf.2.2.2) dX11_coast_158
