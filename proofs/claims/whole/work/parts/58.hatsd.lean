theorem liv_to {D : DV} {M : Nat} (h : ∀ m, M ≤ m → m < 6 → D (30 + m) = 0) : ∀ k, M + k ≤ 6 → liv D (M + k) = liv D M := by
  intro k
  induction k with
  | zero => intro _; rfl
  | succ k ih =>
    intro hk
    rw [← Nat.add_assoc, liv, ih (by omega), if_neg (by rw [h (M + k) (by omega) (by omega)]; decide), Nat.add_zero]
set_option maxHeartbeats 8000000 in
theorem c_X0_giveHats {G : Gx} {d : Nat} {I : FI} {R : FR} {J : FJ} {Q : Po} {c l b : Nat} {K : CO} {f : DV → Int32} {D : DV} (hX : RC I R c l b K f D) {g : Nat} (hg : g < cG K) (hq : ∀ I', FrQ I I' → (∀ m, m < cM K → I' 48 m = oI (givO D (pA K f D g) (cM K) (cH K) m)) → Q (.inl (some (.int (oI (LO D (pA K f D g) (cM K) (cH K) (cM K) 0))))) 103 I' R J) : Cc G mX0_giveHats (d + 20) 0 0 [rf G 43, rf G 3, rf G 18, .int (nI g)] 103 I R J Q := by
  have hXc := hX
  obtain ⟨hRS, hc, hl, hb, hC, hW, hD, hI, hL⟩ := hXc
  have hRK := hRS.K
  have hR3c : R 3 0 = some c := hRS 3 0 (by decide)
  have hR3l : R 3 1 = some l := hRS 3 1 (by decide)
  have hR32 : R 3 2 = some 16 := hRS 3 2 (by decide)
  have hR33 : R 3 3 = some 17 := hRS 3 3 (by decide)
  have h8 := hW.1
  have hg6 := hW.2.1
  have h6 := hW.2.2.1
  have hWD := hI.1
  have hFl := hI.1.1
  have p8 := pow8 h8
  have hbc : bcI (livB D 6) = nI (liv D (cM K)) := by
    obtain ⟨A, a1, a2, a3⟩ := liv_bc hFl 6 (Nat.le_refl _)
    have lt := liv_to (D := D) (M := cM K) (fun m a b => (hI.2.2.1 m a b).2.2.1) (6 - cM K) (by omega)
    rw [show cM K + (6 - cM K) = 6 by omega] at lt
    rw [a2, bc8 A (by omega), a3, lt]
  obtain ⟨I1, eI1⟩ : ∃ I1, I1 = upA I 48 (fiF (I 48) (-1) 6) := ⟨_, rfl⟩
  have hF1 : FrQ I I1 := fun a _ _ _ q => by rw [eI1]; exact upA_n (by omega)
  have hX1 := hX.fr hF1
  have g1 : ∀ m, m < 6 → I1 48 m = -1 := fun m hm => by rw [eI1, upA_s]; exact if_pos hm
  have lm := liv_le (D := D) (cM K)
  by_cases cf : liv D (cM K) ≤ cH K
  · have L : ∀ I3, FrQ I I3 → PrC I3 K f D g → ChC I3 K f D g 0 → (∀ m, m < 6 → I3 48 m = -1) → ∀ i, i ≤ cM K → ∀ I4, (∀ a, a ≠ 48 → I4 a = I3 a) → (∀ m, m < 6 → I4 48 m = if m < i then oI (gfO D (pA K f D g) (cM K) (cH K) (setF D (pA K f D g) (cM K) (cH K) m) m) else -1) → V G mX0_giveHats (d + 20) 0 0 0 0 59 [(8, .int (nI i)), (7, .int (nI (liv D i))), (6, .int (nI (setF D (pA K f D g) (cM K) (cH K) i))), (0, rf G 43), (1, rf G 3), (2, rf G 18), (3, .int (nI g)), (4, .int (nI (cH K))), (5, .int (nI (liv D (cM K))))] [] 103 I4 R J Q := by
      intro I3 hF3 hP3 hC3 hg3
      obtain ⟨v0, v6, v1, v2⟩ := hC3 0 (Nat.zero_le _) p8.1 0 (Nat.zero_le _) (show 0 = pc8 0 from by decide)
      rw [Nat.sub_zero] at v1
      have hne : LO D (pA K f D g) (cM K) (cH K) (cM K) 0 ≠ none := by rw [v1]; intro q; cases q
      rw [v1] at hq
      have frq : ∀ I4, (∀ a, a ≠ 48 → I4 a = I3 a) → FrQ I I4 := fun I4 h a h1 h2 h3 h4 => (h a (by omega)).trans (hF3 a h1 h2 h3 h4)
      refine loopd (cM K) (fun I4 hF4 hG4 => ?_) (fun i hi ih I4 hF4 hG4 => ?_)
      · have hX4 := hX.fr (frq I4 hF4)
        refine V_iload 61 0 rfl dX0_giveHats_59 rfl ?_
        refine V_aload_n 62 4 rfl _ rfl rfl dX0_giveHats_61 rfl ?_
        refine V_getR 65 3 7 0 c hR3c flX0_37 rfl rfl rfl (by decide) dX0_giveHats_62 rfl ?_
        refine V_getI 68 c 2 8 (nI (cM K)) hX4.2.2.2.2.1.2.2.1 flX0_84 rfl (ly_c hc).1 rfl (by omega) dX0_giveHats_65 rfl ?_
        refine V_icmp_ge 135 71 rfl dX0_giveHats_68 rfl (fun c68 => ?_) (fun c68 => absurd (Int32.le_refl _) c68)
        refine V_aload_n 136 3 rfl _ rfl rfl dX0_giveHats_135 rfl ?_
        refine V_getR 139 43 0 3 47 (hRK 43 3 (by decide) (by decide) (by decide)) flX0_21 rfl rfl rfl (by decide) dX0_giveHats_136 rfl ?_
        refine V_iconst 140 (0) rfl dX0_giveHats_139 rfl ?_
        refine V_ialdN 141 47 256 0 (nI v0) (by rw [hF4 47 (by decide)]; exact v2) (by omega) (by decide) rfl (by decide) dX0_giveHats_140 rfl ?_
        refine V_ret_i rfl rfl (Nat.le_of_ble_eq_true rfl) (fun h => absurd h (by decide)) (Nat.le_of_ble_eq_true rfl) (hq I4 (frq I4 hF4) (fun m hm => by unfold givO; rw [if_neg hne, hG4 m (by omega), if_pos hm])) dX0_giveHats_141
      · have hX4 := hX.fr (frq I4 hF4)
        obtain ⟨s1, s2, s3⟩ := set_ok h8 hne i (by omega)
        have el : liv D (i + 1) = liv D i + (if D (30 + i) = 1 then 1 else 0) := rfl
        have es : setF D (pA K f D g) (cM K) (cH K) (i + 1) = match gfO D (pA K f D g) (cM K) (cH K) (setF D (pA K f D g) (cM K) (cH K) i) i with
          | some h => setF D (pA K f D g) (cM K) (cH K) i + 2 ^ h
          | none => setF D (pA K f D g) (cM K) (cH K) i := rfl
        have ll := lt8 (cH K) (by omega) _ (by omega) s2
        have li := liv_le (D := D) i
        refine V_iload 61 0 rfl dX0_giveHats_59 rfl ?_
        refine V_aload_n 62 4 rfl _ rfl rfl dX0_giveHats_61 rfl ?_
        refine V_getR 65 3 7 0 c hR3c flX0_37 rfl rfl rfl (by decide) dX0_giveHats_62 rfl ?_
        refine V_getI 68 c 2 8 (nI (cM K)) hX4.2.2.2.2.1.2.2.1 flX0_84 rfl (ly_c hc).1 rfl (by omega) dX0_giveHats_65 rfl ?_
        refine V_icmp_ge 135 71 rfl dX0_giveHats_68 rfl (fun c68 => absurd c68 (nI_ge hi (by omega))) (fun c68 => ?_)
        refine V_aload_n 72 5 rfl _ rfl rfl dX0_giveHats_71 rfl ?_
        refine V_iload 74 0 rfl dX0_giveHats_72 rfl ?_
        refine V_callV (K' := 0) (S' := 0) 77 18 3 1 [.int (nI i)] mkX3_lives lkX0_87 (by decide) rfl rfl (by decide) rfl (Nat.le_of_ble_eq_true rfl) (Nat.le_of_ble_eq_true rfl) (Nat.le_of_ble_eq_true rfl) (Nat.le_of_ble_eq_true rfl) rfl rfl dX0_giveHats_74 rfl (c_X3_lives_18 hRK hX4.2.2.2.2.2.2.1 hFl (by omega) (fun e1 => ?_) (fun e1 => ?_))
        · refine Kq_i (k' := 0) (sl' := 0) rfl rfl ?_
          rw [if_pos e1] at el
          rw [LO_m hi, if_pos e1] at s1
          obtain ⟨w1, w2, ef⟩ : ∃ w1 w2, fcF (qF (LO D (pA K f D g) (cM K) (cH K) (cM K - (i + 1))) (pA K f D g i) (setF D (pA K f D g) (cM K) (cH K) i)) (cH K) = some (w1, w2) := by
            cases ef : fcF (qF (LO D (pA K f D g) (cM K) (cH K) (cM K - (i + 1))) (pA K f D g i) (setF D (pA K f D g) (cM K) (cH K) i)) (cH K) with
            | none => rw [ef] at s1; exact absurd rfl s1
            | some w => exact ⟨w.1, w.2, rfl⟩
          have eg : gfO D (pA K f D g) (cM K) (cH K) (setF D (pA K f D g) (cM K) (cH K) i) i = some w1 := by unfold gfO; rw [if_pos e1, ef]; rfl
          rw [eg] at es
          replace es : setF D (pA K f D g) (cM K) (cH K) (i + 1) = setF D (pA K f D g) (cM K) (cH K) i + 2 ^ w1 := es
          obtain ⟨x1, x2, -, -⟩ := fc_some (cH K) w1 w2 ef
          have cb : (nI (setF D (pA K f D g) (cM K) (cH K) i) >>> (nI w1 &&& 31)) &&& 1 = 0 := by
            unfold qF at x2
            split at x2
            · assumption
            · cases x2
          have o8 := or8 _ (by omega) w1 (by omega) cb
          have hcc : ∀ h, h < cH K → (nI (setF D (pA K f D g) (cM K) (cH K) i) >>> (nI h &&& 31)) &&& 1 = 0 → ∃ v, v ≤ 600 ∧ LO D (pA K f D g) (cM K) (cH K) (cM K - (i + 1)) (setF D (pA K f D g) (cM K) (cH K) i + 2 ^ h) = some v ∧ I4 47 (setF D (pA K f D g) (cM K) (cH K) i + 2 ^ h) = nI v := by
            intro h hh cb
            rw [hF4 47 (by decide)]
            exact hC3 _ (Nat.zero_le _) (ll.2.2 h hh cb) (i + 1) (by omega) (by rw [el, (or8 _ (by omega) h (by omega) cb).2.2, s3])
          refine V_if_eq 129 80 rfl dX0_giveHats_77 rfl (fun c77 => absurd c77 (by decide)) (fun c77 => ?_)
          refine V_aload_n 81 3 rfl _ rfl rfl dX0_giveHats_80 rfl ?_
          refine V_getR 84 43 0 4 48 (hRK 43 4 (by decide) (by decide) (by decide)) flX0_24 rfl rfl rfl (by decide) dX0_giveHats_81 rfl ?_
          refine V_iload 86 0 rfl dX0_giveHats_84 rfl ?_
          refine V_aload_n 87 3 rfl _ rfl rfl dX0_giveHats_86 rfl ?_
          refine V_iload 89 1 rfl dX0_giveHats_87 rfl ?_
          refine V_iload 91 2 rfl dX0_giveHats_89 rfl ?_
          refine V_iload 93 7 rfl dX0_giveHats_91 rfl ?_
          refine V_callV (K' := 0) (S' := 0) 96 43 0 3 [.int (nI (liv D i)), .int (nI (setF D (pA K f D g) (cM K) (cH K) i)), .int (nI (cH K))] mkX0_firstCheapest lkX0_91 (by decide) rfl rfl (by decide) rfl (Nat.le_of_ble_eq_true rfl) (Nat.le_of_ble_eq_true rfl) (Nat.le_of_ble_eq_true rfl) (Nat.le_of_ble_eq_true rfl) rfl rfl dX0_giveHats_93 rfl (c_X0_firstCheapest (c := LO D (pA K f D g) (cM K) (cH K) (cM K - (i + 1))) (p := pA K f D g i) hRK (by omega) h8 s2 (fun h hh => ⟨by rw [hF4 46 (by decide)]; exact hP3 i hi e1 h hh, (pA_ok hL.R D g i h).2⟩) hcc ?_)
          rw [ef]
          refine Kq_i (k' := 0) (sl' := 0) rfl rfl ?_
          refine V_iastN 97 48 6 i (by omega) (by decide) rfl (by decide) dX0_giveHats_96 rfl ?_
          refine V_iload 99 2 rfl dX0_giveHats_97 rfl ?_
          refine V_aload_n 100 3 rfl _ rfl rfl dX0_giveHats_99 rfl ?_
          refine V_getR 103 43 0 4 48 (hRK 43 4 (by decide) (by decide) (by decide)) flX0_24 rfl rfl rfl (by decide) dX0_giveHats_100 rfl ?_
          refine V_iload 105 0 rfl dX0_giveHats_103 rfl ?_
          refine V_ialdN 106 48 6 i (nI w1) (by rw [up2_s]; exact upd_s) (by omega) (by decide) rfl (by decide) dX0_giveHats_105 rfl ?_
          refine V_iconst 107 (-1) rfl dX0_giveHats_106 rfl ?_
          refine V_icmp_ne 114 110 rfl dX0_giveHats_107 rfl (fun c107 => ?_) (fun c107 => absurd c107 (nI_ne (by omega)))
          refine V_iconst 115 (1) rfl dX0_giveHats_114 rfl ?_
          refine V_aload_n 116 3 rfl _ rfl rfl dX0_giveHats_115 rfl ?_
          refine V_getR 119 43 0 4 48 (hRK 43 4 (by decide) (by decide) (by decide)) flX0_24 rfl rfl rfl (by decide) dX0_giveHats_116 rfl ?_
          refine V_iload 121 0 rfl dX0_giveHats_119 rfl ?_
          refine V_ialdN 122 48 6 i (nI w1) (by rw [up2_s]; exact upd_s) (by omega) (by decide) rfl (by decide) dX0_giveHats_121 rfl ?_
          refine V_ishl 123 dX0_giveHats_122 rfl ?_
          refine V_ior 124 dX0_giveHats_123 rfl ?_
          refine V_rw (show _ = nI (setF D (pA K f D g) (cM K) (cH K) (i + 1)) from by rw [es]; exact o8.1) ?_
          refine V_istore 126 [(6, .int (nI (setF D (pA K f D g) (cM K) (cH K) (i + 1)))), (8, .int (nI i)), (7, .int (nI (liv D i))), (0, rf G 43), (1, rf G 3), (2, rf G 18), (3, .int (nI g)), (4, .int (nI (cH K))), (5, .int (nI (liv D (cM K))))] (by decide) rfl dX0_giveHats_124 rfl ?_
          refine V_iinc 129 2 rfl (nI (liv D (i + 1))) [(7, .int (nI (liv D (i + 1)))), (6, .int (nI (setF D (pA K f D g) (cM K) (cH K) (i + 1)))), (8, .int (nI i)), (0, rf G 43), (1, rf G 3), (2, rf G 18), (3, .int (nI g)), (4, .int (nI (cH K))), (5, .int (nI (liv D (cM K))))] ((nI_1 _).trans (by rw [el])) (by decide) rfl dX0_giveHats_126 rfl ?_
          refine V_iinc 132 2 rfl (nI (i + 1)) [(8, .int (nI (i + 1))), (7, .int (nI (liv D (i + 1)))), (6, .int (nI (setF D (pA K f D g) (cM K) (cH K) (i + 1)))), (0, rf G 43), (1, rf G 3), (2, rf G 18), (3, .int (nI g)), (4, .int (nI (cH K))), (5, .int (nI (liv D (cM K))))] (nI_1 _) (by decide) rfl dX0_giveHats_129 rfl ?_
          refine V_goto 59 rfl dX0_giveHats_132 ?_
          refine V_lv [0, 1, 2, 3, 4, 5, 6, 7, 8] rfl (ih _ (fun a q => by rw [up2_n _ _ _ q]; exact hF4 a q) (fun m hm => ?_))
          rw [up2_s]
          by_cases c : m = i
          · subst c; rw [upd_s, if_pos (by omega), eg]; rfl
          · rw [upd_n c, hG4 m hm]
            by_cases c2 : m < i
            · rw [if_pos c2, if_pos (by omega)]
            · rw [if_neg c2, if_neg (by omega)]
        · refine Kq_i (k' := 0) (sl' := 0) rfl rfl ?_
          refine V_if_eq 129 80 rfl dX0_giveHats_77 rfl (fun c77 => ?_) (fun c77 => absurd c77 (by decide))
          refine V_iinc 132 0 rfl (nI (i + 1)) [(8, .int (nI (i + 1))), (7, .int (nI (liv D i))), (6, .int (nI (setF D (pA K f D g) (cM K) (cH K) i))), (0, rf G 43), (1, rf G 3), (2, rf G 18), (3, .int (nI g)), (4, .int (nI (cH K))), (5, .int (nI (liv D (cM K))))] (nI_1 _) (by decide) rfl dX0_giveHats_129 rfl ?_
          refine V_goto 59 rfl dX0_giveHats_132 ?_
          rw [if_neg (show ¬ D (30 + i) = 1 from by rw [e1]; decide), Nat.add_zero] at el
          have eg : gfO D (pA K f D g) (cM K) (cH K) (setF D (pA K f D g) (cM K) (cH K) i) i = none := if_neg (by rw [e1]; decide)
          rw [eg] at es
          replace es : setF D (pA K f D g) (cM K) (cH K) (i + 1) = setF D (pA K f D g) (cM K) (cH K) i := es
          rw [el, es] at ih
          refine V_lv [0, 1, 2, 3, 4, 5, 6, 7, 8] rfl (ih I4 hF4 (fun m hm => ?_))
          rw [hG4 m hm]
          by_cases c : m = i
          · subst c; rw [if_neg (by omega), if_pos (by omega), eg]; rfl
          · by_cases c2 : m < i
            · rw [if_pos c2, if_pos (by omega)]
            · rw [if_neg c2, if_neg (by omega)]
    show V _ _ _ _ _ _ _ _ [(0, rf G 43), (1, rf G 3), (2, rf G 18), (3, .int (nI g))] [] _ _ _ _ _
    refine V_aload_n 1 0 rfl _ rfl rfl dX0_giveHats_0 rfl ?_
    refine V_getR 4 43 0 4 48 (hRK 43 4 (by decide) (by decide) (by decide)) flX0_24 rfl rfl rfl (by decide) dX0_giveHats_1 rfl ?_
    refine V_iconst 5 (-1) rfl dX0_giveHats_4 rfl ?_
    refine V_callS (K' := 0) (S' := 0) 8 2 [rf G 48, .int (-1)] mkJ7_fill_53178 lkX0_62 rfl (Nat.le_of_ble_eq_true rfl) (Nat.le_of_ble_eq_true rfl) (Nat.le_of_ble_eq_true rfl) (Nat.le_of_ble_eq_true rfl) rfl rfl dX0_giveHats_5 rfl (c_J7_fill_48 ?_)
    rw [← eI1]
    refine Kq_v (k' := 0) (sl' := 0) rfl rfl ?_
    refine V_aload_n 9 1 rfl _ rfl rfl dX0_giveHats_8 rfl ?_
    refine V_getR 12 3 7 0 c hR3c flX0_37 rfl rfl rfl (by decide) dX0_giveHats_9 rfl ?_
    refine V_getI 15 c 2 6 (nI (cH K)) hX1.2.2.2.2.1.1 flX0_43 rfl (ly_c hc).1 rfl (by omega) dX0_giveHats_12 rfl ?_
    refine V_istore 17 [(4, .int (nI (cH K))), (0, rf G 43), (1, rf G 3), (2, rf G 18), (3, .int (nI g))] (by decide) rfl dX0_giveHats_15 rfl ?_
    refine V_aload_n 18 3 rfl _ rfl rfl dX0_giveHats_17 rfl ?_
    refine V_getI 21 18 3 8 (livB D 6) hX1.2.2.2.2.2.2.1.2.2.2.2.2.2.2.2 flX0_68 rfl rfl rfl (by decide) dX0_giveHats_18 rfl ?_
    refine V_callS (K' := 0) (S' := 0) 24 1 [.int (livB D 6)] mkJ6_bitCount_0f7a4 lkX0_71 rfl (Nat.le_of_ble_eq_true rfl) (Nat.le_of_ble_eq_true rfl) (Nat.le_of_ble_eq_true rfl) (Nat.le_of_ble_eq_true rfl) rfl rfl dX0_giveHats_21 rfl (c_J6_bitCount ?_)
    rw [hbc]
    refine Kq_i (k' := 0) (sl' := 0) rfl rfl ?_
    refine V_istore 26 [(5, .int (nI (liv D (cM K)))), (4, .int (nI (cH K))), (0, rf G 43), (1, rf G 3), (2, rf G 18), (3, .int (nI g))] (by decide) rfl dX0_giveHats_24 rfl ?_
    refine V_iload 28 0 rfl dX0_giveHats_26 rfl ?_
    refine V_iload 30 1 rfl dX0_giveHats_28 rfl ?_
    refine V_icmp_le 35 33 rfl dX0_giveHats_30 rfl (fun c30 => ?_) (fun c30 => absurd (nI_le cf (by omega)) c30)
    refine V_aload_n 36 2 rfl _ rfl rfl dX0_giveHats_35 rfl ?_
    refine V_aload_n 37 3 rfl _ rfl rfl dX0_giveHats_36 rfl ?_
    refine V_aload_n 38 4 rfl _ rfl rfl dX0_giveHats_37 rfl ?_
    refine V_iload_n 39 5 rfl rfl dX0_giveHats_38 rfl ?_
    refine V_callV (K' := 0) (S' := 0) 42 43 0 3 [rf G 3, rf G 18, .int (nI g)] mkX0_priceHats lkX0_76 (by decide) rfl rfl (by decide) rfl (Nat.le_of_ble_eq_true rfl) (Nat.le_of_ble_eq_true rfl) (Nat.le_of_ble_eq_true rfl) (Nat.le_of_ble_eq_true rfl) rfl rfl dX0_giveHats_39 rfl (c_X0_priceHats hX1 hg (fun I2 hF2 hP2 => ?_))
    refine Kq_v (k' := 0) (sl' := 0) rfl rfl ?_
    refine V_aload_n 43 2 rfl _ rfl rfl dX0_giveHats_42 rfl ?_
    refine V_iload 45 1 rfl dX0_giveHats_43 rfl ?_
    refine V_iload 47 0 rfl dX0_giveHats_45 rfl ?_
    refine V_callV (K' := 0) (S' := 0) 50 43 0 2 [.int (nI (cH K)), .int (nI (liv D (cM K)))] mkX0_findCheapest lkX0_80 (by decide) rfl rfl (by decide) rfl (Nat.le_of_ble_eq_true rfl) (Nat.le_of_ble_eq_true rfl) (Nat.le_of_ble_eq_true rfl) (Nat.le_of_ble_eq_true rfl) rfl rfl dX0_giveHats_47 rfl (c_X0_findCheapest hRK hW hL.R cf hP2 (fun I3 hF3 hC3 => ?_))
    refine Kq_v (k' := 0) (sl' := 0) rfl rfl ?_
    refine V_iconst 51 (0) rfl dX0_giveHats_50 rfl ?_
    refine V_istore 53 [(6, .int 0), (5, .int (nI (liv D (cM K)))), (4, .int (nI (cH K))), (0, rf G 43), (1, rf G 3), (2, rf G 18), (3, .int (nI g))] (by decide) rfl dX0_giveHats_51 rfl ?_
    refine V_iconst 54 (0) rfl dX0_giveHats_53 rfl ?_
    refine V_istore 56 [(7, .int 0), (6, .int 0), (5, .int (nI (liv D (cM K)))), (4, .int (nI (cH K))), (0, rf G 43), (1, rf G 3), (2, rf G 18), (3, .int (nI g))] (by decide) rfl dX0_giveHats_54 rfl ?_
    refine V_iconst 57 (0) rfl dX0_giveHats_56 rfl ?_
    refine V_istore 59 [(8, .int 0), (7, .int 0), (6, .int 0), (5, .int (nI (liv D (cM K)))), (4, .int (nI (cH K))), (0, rf G 43), (1, rf G 3), (2, rf G 18), (3, .int (nI g))] (by decide) rfl dX0_giveHats_57 rfl ?_
    exact V_lv [0, 1, 2, 5, 6, 7, 8, 4, 3] rfl (L I3 (fun a h1 h2 h3 h4 => by rw [hF3 a (by omega), hF2 a (by omega) (by omega) (by omega)]; exact hF1 a h1 h2 h3 h4) (fun m a b h c => by rw [hF3 46 (by decide)]; exact hP2 m a b h c) hC3 (fun m hm => by rw [hF3 48 (by decide), hF2 48 (by decide) (by omega) (by decide)]; exact g1 m hm) 0 (Nat.zero_le _) I3 (fun _ _ => rfl) (fun m hm => by rw [if_neg (Nat.not_lt_zero _), hF3 48 (by decide), hF2 48 (by decide) (by omega) (by decide)]; exact g1 m hm))
  · have hno : LO D (pA K f D g) (cM K) (cH K) (cM K) 0 = none := LO_no h8 (cM K) 0 0 (by omega) (Nat.zero_le _) p8.1 (by rw [show liv D 0 = 0 from rfl, show pc8 0 = 0 from by decide]; omega)
    rw [hno] at hq
    show V _ _ _ _ _ _ _ _ [(0, rf G 43), (1, rf G 3), (2, rf G 18), (3, .int (nI g))] [] _ _ _ _ _
    refine V_aload_n 1 0 rfl _ rfl rfl dX0_giveHats_0 rfl ?_
    refine V_getR 4 43 0 4 48 (hRK 43 4 (by decide) (by decide) (by decide)) flX0_24 rfl rfl rfl (by decide) dX0_giveHats_1 rfl ?_
    refine V_iconst 5 (-1) rfl dX0_giveHats_4 rfl ?_
    refine V_callS (K' := 0) (S' := 0) 8 2 [rf G 48, .int (-1)] mkJ7_fill_53178 lkX0_62 rfl (Nat.le_of_ble_eq_true rfl) (Nat.le_of_ble_eq_true rfl) (Nat.le_of_ble_eq_true rfl) (Nat.le_of_ble_eq_true rfl) rfl rfl dX0_giveHats_5 rfl (c_J7_fill_48 ?_)
    rw [← eI1]
    refine Kq_v (k' := 0) (sl' := 0) rfl rfl ?_
    refine V_aload_n 9 1 rfl _ rfl rfl dX0_giveHats_8 rfl ?_
    refine V_getR 12 3 7 0 c hR3c flX0_37 rfl rfl rfl (by decide) dX0_giveHats_9 rfl ?_
    refine V_getI 15 c 2 6 (nI (cH K)) hX1.2.2.2.2.1.1 flX0_43 rfl (ly_c hc).1 rfl (by omega) dX0_giveHats_12 rfl ?_
    refine V_istore 17 [(4, .int (nI (cH K))), (0, rf G 43), (1, rf G 3), (2, rf G 18), (3, .int (nI g))] (by decide) rfl dX0_giveHats_15 rfl ?_
    refine V_aload_n 18 3 rfl _ rfl rfl dX0_giveHats_17 rfl ?_
    refine V_getI 21 18 3 8 (livB D 6) hX1.2.2.2.2.2.2.1.2.2.2.2.2.2.2.2 flX0_68 rfl rfl rfl (by decide) dX0_giveHats_18 rfl ?_
    refine V_callS (K' := 0) (S' := 0) 24 1 [.int (livB D 6)] mkJ6_bitCount_0f7a4 lkX0_71 rfl (Nat.le_of_ble_eq_true rfl) (Nat.le_of_ble_eq_true rfl) (Nat.le_of_ble_eq_true rfl) (Nat.le_of_ble_eq_true rfl) rfl rfl dX0_giveHats_21 rfl (c_J6_bitCount ?_)
    rw [hbc]
    refine Kq_i (k' := 0) (sl' := 0) rfl rfl ?_
    refine V_istore 26 [(5, .int (nI (liv D (cM K)))), (4, .int (nI (cH K))), (0, rf G 43), (1, rf G 3), (2, rf G 18), (3, .int (nI g))] (by decide) rfl dX0_giveHats_24 rfl ?_
    refine V_iload 28 0 rfl dX0_giveHats_26 rfl ?_
    refine V_iload 30 1 rfl dX0_giveHats_28 rfl ?_
    refine V_icmp_le 35 33 rfl dX0_giveHats_30 rfl (fun c30 => absurd ((nI_leI (by omega) (by omega)).mp c30) cf) (fun c30 => ?_)
    refine V_iconst 34 (-1) rfl dX0_giveHats_33 rfl ?_
    refine V_ret_i rfl rfl (Nat.le_of_ble_eq_true rfl) (fun h => absurd h (by decide)) (Nat.le_of_ble_eq_true rfl) (hq I1 hF1 (fun m hm => by unfold givO; rw [if_pos hno, g1 m (by omega)]; rfl)) dX0_giveHats_34
set_option maxHeartbeats 8000000 in
theorem c_X10_hatted {G : Gx} {d : Nat} {I : FI} {R : FR} {J : FJ} {Q : Po} {c l b : Nat} {K : CO} {f : DV → Int32} {D : DV} (hX : RC I R c l b K f D) {x : Int32}  (hq : Ho I R J Q (ckN x (cG K) (.inl (oI (LO D (pA K f D x.toNatClampNeg) (cM K) (cH K) (cM K) 0))))) : Cc G mX10_hatted (d + 60) 8 48 [rf G 0, .int x] 103 I R J Q := by
  obtain ⟨hRS, hc, hl, hb, hC, hW, hD, hI, hL⟩ := hX
  have hRK := hRS.K
  have hR3c : R 3 0 = some c := hRS 3 0 (by decide)
  have hR3l : R 3 1 = some l := hRS 3 1 (by decide)
  have hR32 : R 3 2 = some 16 := hRS 3 2 (by decide)
  have hR33 : R 3 3 = some 17 := hRS 3 3 (by decide)
  have h8 := hW.1
  have hg6 := hW.2.1
  have h6 := hW.2.2.1
  have hWD := hI.1
  have hFl := hI.1.1
  show V _ _ _ _ _ _ _ _ [(0, rf G 0), (1, .int x)] [] _ _ _ _ _
  refine V_aload_n 1 0 rfl _ rfl rfl dX10_hatted_0 rfl ?_
  refine V_iload_n 2 1 rfl rfl dX10_hatted_1 rfl ?_
  refine V_aload_n 3 0 rfl _ rfl rfl dX10_hatted_2 rfl ?_
  refine V_getR 6 0 10 1 3 (hRS 0 1 (by decide)) flX10_19 rfl rfl rfl (by decide) dX10_hatted_3 rfl ?_
  refine V_getR 9 3 7 0 c hR3c flX10_85 rfl rfl rfl (by decide) dX10_hatted_6 rfl ?_
  refine V_getI 12 c 2 7 (nI (cG K)) hC.2.1 flX10_165 rfl (ly_c hc).1 rfl (by omega) dX10_hatted_9 rfl ?_
  refine V_callV (K' := 1) (S' := 6) 15 0 10 2 [.int x, .int (nI (cG K))] mkX10_needOneOf lkX10_187 (by decide) rfl rfl (by decide) rfl (Nat.le_of_ble_eq_true rfl) (Nat.le_of_ble_eq_true rfl) (Nat.le_of_ble_eq_true rfl) (Nat.le_of_ble_eq_true rfl) rfl rfl dX10_hatted_12 rfl (c_X10_needOneOf (c := cG K) (by omega) (fun i12 => ?_) (fun i12 => by rw [ckN_n (by omega) i12] at hq; exact hq _ rfl))
  refine Kq_v (k' := 1) (sl' := 6) rfl rfl ?_
  rw [ckN_y (by omega) i12] at hq
  obtain ⟨g, hg, rfl⟩ := i12
  refine V_aload_n 16 0 rfl _ rfl rfl dX10_hatted_15 rfl ?_
  refine V_getR 19 0 10 6 43 (hRS 0 6 (by decide)) flX10_50 rfl rfl rfl (by decide) dX10_hatted_16 rfl ?_
  refine V_aload_n 20 0 rfl _ rfl rfl dX10_hatted_19 rfl ?_
  refine V_getR 23 0 10 1 3 (hRS 0 1 (by decide)) flX10_19 rfl rfl rfl (by decide) dX10_hatted_20 rfl ?_
  refine V_aload_n 24 0 rfl _ rfl rfl dX10_hatted_23 rfl ?_
  refine V_getR 27 0 10 2 18 (hRS 0 2 (by decide)) flX10_26 rfl rfl rfl (by decide) dX10_hatted_24 rfl ?_
  refine V_iload_n 28 1 rfl rfl dX10_hatted_27 rfl ?_
  refine V_callV (K' := 0) (S' := 0) 31 43 0 3 [rf G 3, rf G 18, .int (nI g)] mkX0_giveHats lkX10_271 (by decide) rfl rfl (by decide) rfl (Nat.le_of_ble_eq_true rfl) (Nat.le_of_ble_eq_true rfl) (Nat.le_of_ble_eq_true rfl) (Nat.le_of_ble_eq_true rfl) rfl rfl dX10_hatted_28 rfl (c_X0_giveHats ⟨hRS, hc, hl, hb, hC, hW, hD, hI, hL⟩ hg (fun I1 hF1 hG1 => ?_))
  refine Kq_i (k' := 1) (sl' := 6) rfl rfl ?_
  rw [nI_clamp (show g < 2 ^ 31 by omega)] at hq
  refine V_ret_i rfl rfl (Nat.le_of_ble_eq_true rfl) (fun h => absurd h (by decide)) (Nat.le_of_ble_eq_true rfl) (hq I1 hF1) dX10_hatted_31
set_option maxHeartbeats 8000000 in
theorem c_X10_given {G : Gx} {d : Nat} {I : FI} {R : FR} {J : FJ} {Q : Po} {c l b : Nat} {K : CO} {f : DV → Int32} {D : DV} (hX : RC I R c l b K f D) {x y : Int32}  (hq : Ho I R J Q (ckN x (cG K) (ckN y (cM K) (.inl (oI (givO D (pA K f D x.toNatClampNeg) (cM K) (cH K) y.toNatClampNeg)))))) : Cc G mX10_given (d + 60) 8 48 [rf G 0, .int x, .int y] 103 I R J Q := by
  obtain ⟨hRS, hc, hl, hb, hC, hW, hD, hI, hL⟩ := hX
  have hRK := hRS.K
  have hR3c : R 3 0 = some c := hRS 3 0 (by decide)
  have hR3l : R 3 1 = some l := hRS 3 1 (by decide)
  have hR32 : R 3 2 = some 16 := hRS 3 2 (by decide)
  have hR33 : R 3 3 = some 17 := hRS 3 3 (by decide)
  have h8 := hW.1
  have hg6 := hW.2.1
  have h6 := hW.2.2.1
  have hWD := hI.1
  have hFl := hI.1.1
  show V _ _ _ _ _ _ _ _ [(0, rf G 0), (1, .int x), (2, .int y)] [] _ _ _ _ _
  refine V_aload_n 1 0 rfl _ rfl rfl dX10_given_0 rfl ?_
  refine V_iload_n 2 1 rfl rfl dX10_given_1 rfl ?_
  refine V_aload_n 3 0 rfl _ rfl rfl dX10_given_2 rfl ?_
  refine V_getR 6 0 10 1 3 (hRS 0 1 (by decide)) flX10_19 rfl rfl rfl (by decide) dX10_given_3 rfl ?_
  refine V_getR 9 3 7 0 c hR3c flX10_85 rfl rfl rfl (by decide) dX10_given_6 rfl ?_
  refine V_getI 12 c 2 7 (nI (cG K)) hC.2.1 flX10_165 rfl (ly_c hc).1 rfl (by omega) dX10_given_9 rfl ?_
  refine V_callV (K' := 1) (S' := 6) 15 0 10 2 [.int x, .int (nI (cG K))] mkX10_needOneOf lkX10_187 (by decide) rfl rfl (by decide) rfl (Nat.le_of_ble_eq_true rfl) (Nat.le_of_ble_eq_true rfl) (Nat.le_of_ble_eq_true rfl) (Nat.le_of_ble_eq_true rfl) rfl rfl dX10_given_12 rfl (c_X10_needOneOf (c := cG K) (by omega) (fun i12 => ?_) (fun i12 => by rw [ckN_n (by omega) i12] at hq; exact hq _ rfl))
  refine Kq_v (k' := 1) (sl' := 6) rfl rfl ?_
  rw [ckN_y (by omega) i12] at hq
  obtain ⟨g, hg, rfl⟩ := i12
  refine V_aload_n 16 0 rfl _ rfl rfl dX10_given_15 rfl ?_
  refine V_iload_n 17 2 rfl rfl dX10_given_16 rfl ?_
  refine V_aload_n 18 0 rfl _ rfl rfl dX10_given_17 rfl ?_
  refine V_getR 21 0 10 1 3 (hRS 0 1 (by decide)) flX10_19 rfl rfl rfl (by decide) dX10_given_18 rfl ?_
  refine V_getR 24 3 7 0 c hR3c flX10_85 rfl rfl rfl (by decide) dX10_given_21 rfl ?_
  refine V_getI 27 c 2 8 (nI (cM K)) hC.2.2.1 flX10_127 rfl (ly_c hc).1 rfl (by omega) dX10_given_24 rfl ?_
  refine V_callV (K' := 1) (S' := 6) 30 0 10 2 [.int y, .int (nI (cM K))] mkX10_needOneOf lkX10_187 (by decide) rfl rfl (by decide) rfl (Nat.le_of_ble_eq_true rfl) (Nat.le_of_ble_eq_true rfl) (Nat.le_of_ble_eq_true rfl) (Nat.le_of_ble_eq_true rfl) rfl rfl dX10_given_27 rfl (c_X10_needOneOf (c := cM K) (by omega) (fun i27 => ?_) (fun i27 => by rw [ckN_n (by omega) i27] at hq; exact hq _ rfl))
  refine Kq_v (k' := 2) (sl' := 12) rfl rfl ?_
  rw [ckN_y (by omega) i27] at hq
  obtain ⟨m, hm, rfl⟩ := i27
  refine V_aload_n 31 0 rfl _ rfl rfl dX10_given_30 rfl ?_
  refine V_getR 34 0 10 6 43 (hRS 0 6 (by decide)) flX10_50 rfl rfl rfl (by decide) dX10_given_31 rfl ?_
  refine V_aload_n 35 0 rfl _ rfl rfl dX10_given_34 rfl ?_
  refine V_getR 38 0 10 1 3 (hRS 0 1 (by decide)) flX10_19 rfl rfl rfl (by decide) dX10_given_35 rfl ?_
  refine V_aload_n 39 0 rfl _ rfl rfl dX10_given_38 rfl ?_
  refine V_getR 42 0 10 2 18 (hRS 0 2 (by decide)) flX10_26 rfl rfl rfl (by decide) dX10_given_39 rfl ?_
  refine V_iload_n 43 1 rfl rfl dX10_given_42 rfl ?_
  refine V_callV (K' := 0) (S' := 0) 46 43 0 3 [rf G 3, rf G 18, .int (nI g)] mkX0_giveHats lkX10_271 (by decide) rfl rfl (by decide) rfl (Nat.le_of_ble_eq_true rfl) (Nat.le_of_ble_eq_true rfl) (Nat.le_of_ble_eq_true rfl) (Nat.le_of_ble_eq_true rfl) rfl rfl dX10_given_43 rfl (c_X0_giveHats ⟨hRS, hc, hl, hb, hC, hW, hD, hI, hL⟩ hg (fun I1 hF1 hG1 => ?_))
  refine Kq_i (k' := 2) (sl' := 12) rfl rfl ?_
  rw [nI_clamp (show g < 2 ^ 31 by omega), nI_clamp (show m < 2 ^ 31 by omega)] at hq
  refine V_pop 47 rfl dX10_given_46 rfl ?_
  refine V_aload_n 48 0 rfl _ rfl rfl dX10_given_47 rfl ?_
  refine V_getR 51 0 10 6 43 (hRS 0 6 (by decide)) flX10_50 rfl rfl rfl (by decide) dX10_given_48 rfl ?_
  refine V_getR 54 43 0 4 48 (hRK 43 4 (by decide) (by decide) (by decide)) flX10_275 rfl rfl rfl (by decide) dX10_given_51 rfl ?_
  refine V_iload_n 55 2 rfl rfl dX10_given_54 rfl ?_
  refine V_ialdN 56 48 6 m (oI (givO D (pA K f D g) (cM K) (cH K) m)) (hG1 m hm) (by omega) (by decide) rfl (by decide) dX10_given_55 rfl ?_
  refine V_ret_i rfl rfl (Nat.le_of_ble_eq_true rfl) (fun h => absurd h (by decide)) (Nat.le_of_ble_eq_true rfl) (hq I1 hF1) dX10_given_56
