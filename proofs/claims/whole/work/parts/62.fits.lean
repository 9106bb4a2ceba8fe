set_option maxHeartbeats 8000000 in
theorem c_X0_findPairs {G : Gx} {d : Nat} {I : FI} {R : FR} {J : FJ} {Q : Po} {c l b : Nat} {K : CO} {f : DV → Int32} {D : DV} (hX : RC I R c l b K f D) {nb : Nat} {bk : Nat → Option Nat} (hB : BookC I b nb bk) {m n : Nat} (hm : m < cM K) (hn : n ≤ 24) (hnd : ∀ k v, bk k = some v → k < n) (hq : ∀ I', FrQ I I' → I' 43 9 = nI (cnT K f D bk m (cH K * cG K)) → I' 43 10 = (fsT K f D bk m (cH K * cG K)) → (∀ u, u < cH K * cG K → fitT K f D bk m u = true → ∀ k, k < n → I' 44 (cnT K f D bk m u * 24 + k) = alS K f D m (u / cG K) (u % cG K) k) → Q (.inl none) 103 I' R J) : Cc G mX0_findPairs (d + 10) 0 0 [rf G 43, rf G 3, rf G 18, rf G b, .int (nI m), .int (nI n)] 103 I R J Q := by
  have hXc := hX
  obtain ⟨hRS, hc, hl, hb, hC, hW, hD, hI, hL⟩ := hXc
  have hRK := hRS.K
  have hR3c : R 3 0 = some c := hRS 3 0 (by decide)
  have hR3l : R 3 1 = some l := hRS 3 1 (by decide)
  have hR32 : R 3 2 = some 16 := hRS 3 2 (by decide)
  have hR33 : R 3 3 = some 17 := hRS 3 3 (by decide)
  have h8 := hW.1
  have hg6 := hW.2.1
  have h6 := hW.2.2.1
  have hWD := hI.1
  have hFl := hI.1.1
  have L : ∀ h, h ≤ cH K → ∀ I1, FrQ I I1 → I1 43 9 = nI (cnT K f D bk m (h * cG K)) → I1 43 10 = (fsT K f D bk m (h * cG K)) → (∀ u, u < h * cG K → fitT K f D bk m u = true → ∀ k, k < n → I1 44 (cnT K f D bk m u * 24 + k) = alS K f D m (u / cG K) (u % cG K) k) → V G mX0_findPairs (d + 10) 0 0 0 0 13 [(6, .int (nI h)), (0, rf G 43), (1, rf G 3), (2, rf G 18), (3, rf G b), (4, .int (nI m)), (5, .int (nI n))] [] 103 I1 R J Q := by
    refine loopd (cH K) (fun I1 hF1 h91 h101 hW1 => ?_) (fun h hh ih I1 hF1 h91 h101 hW1 => ?_)
    · have hX1 := hX.fr hF1
      refine V_iload 15 0 rfl dX0_findPairs_13 rfl ?_
      refine V_aload_n 16 2 rfl _ rfl rfl dX0_findPairs_15 rfl ?_
      refine V_getR 19 3 7 0 c hR3c flX0_37 rfl rfl rfl (by decide) dX0_findPairs_16 rfl ?_
      refine V_getI 22 c 2 6 (nI (cH K)) hX1.2.2.2.2.1.1 flX0_43 rfl (ly_c hc).1 rfl (by omega) dX0_findPairs_19 rfl ?_
      refine V_icmp_ge 152 25 rfl dX0_findPairs_22 rfl (fun c22 => ?_) (fun c22 => absurd (Int32.le_refl _) c22)
      refine V_ret_v rfl (Nat.le_of_ble_eq_true rfl) (fun h => absurd h (by decide)) (Nat.le_of_ble_eq_true rfl) (hq I1 hF1 h91 h101 hW1) dX0_findPairs_152
    · have L2 : ∀ g, g ≤ cG K → ∀ I2, FrQ I I2 → I2 43 9 = nI (cnT K f D bk m (h * cG K + g)) → I2 43 10 = (fsT K f D bk m (h * cG K + g)) → (∀ u, u < h * cG K + g → fitT K f D bk m u = true → ∀ k, k < n → I2 44 (cnT K f D bk m u * 24 + k) = alS K f D m (u / cG K) (u % cG K) k) → V G mX0_findPairs (d + 10) 0 0 0 0 28 [(7, .int (nI g)), (6, .int (nI h)), (0, rf G 43), (1, rf G 3), (2, rf G 18), (3, rf G b), (4, .int (nI m)), (5, .int (nI n))] [] 103 I2 R J Q := by
        refine loopd (cG K) (fun I2 hF2 h92 h102 hW2 => ?_) (fun g hg ih2 I2 hF2 h92 h102 hW2 => ?_)
        · have hX2 := hX.fr hF2
          refine V_iload 30 0 rfl dX0_findPairs_28 rfl ?_
          refine V_aload_n 31 3 rfl _ rfl rfl dX0_findPairs_30 rfl ?_
          refine V_getR 34 3 7 0 c hR3c flX0_37 rfl rfl rfl (by decide) dX0_findPairs_31 rfl ?_
          refine V_getI 37 c 2 7 (nI (cG K)) hX2.2.2.2.2.1.2.1 flX0_105 rfl (ly_c hc).1 rfl (by omega) dX0_findPairs_34 rfl ?_
          refine V_icmp_ge 146 40 rfl dX0_findPairs_37 rfl (fun c37 => ?_) (fun c37 => absurd (Int32.le_refl _) c37)
          refine V_iinc 149 1 rfl (nI (h + 1)) [(6, .int (nI (h + 1))), (7, .int (nI (cG K))), (0, rf G 43), (1, rf G 3), (2, rf G 18), (3, rf G b), (4, .int (nI m)), (5, .int (nI n))] (nI_1 _) (by decide) rfl dX0_findPairs_146 rfl ?_
          refine V_goto 13 rfl dX0_findPairs_149 ?_
          rw [Nat.succ_mul] at ih
          exact V_lv [0, 2, 3, 4, 5, 6, 7] rfl (ih I2 hF2 h92 h102 hW2)
        · have hX2 := hX.fr hF2
          obtain ⟨t1, t2, t3⟩ := tlt hh hg h8 hg6
          obtain ⟨d1, d2⟩ := dvmd (h := h) hg
          obtain ⟨t, et⟩ : ∃ t, t = h * cG K + g := ⟨_, rfl⟩
          rw [← et] at h92 h102 hW2 t1 d1 d2
          have ih2 := ih2
          rw [← Nat.add_assoc, ← et] at ih2
          have ct := cnT_le (K := K) (f := f) (D := D) (bk := bk) (m := m) t
          have e1 : cnT K f D bk m (t + 1) = cnT K f D bk m t + (if fitT K f D bk m t = true then 1 else 0) := rfl
          have eA : ∀ k, alS K f D m (t / cG K) (t % cG K) k = alS K f D m h g k := fun k => by rw [d1, d2]
          have L3 : ∀ k, k ≤ n → ∀ I3, (∀ a, a ≠ 16 → a ≠ l + 4 → a ≠ 44 → I3 a = I2 a) → (∀ j, j < cnT K f D bk m t * 24 → I3 44 j = I2 44 j) → (∀ j, j < k → I3 44 (cnT K f D bk m t * 24 + j) = alS K f D m h g j) → (∀ j, j < 8 → I3 16 j = alX K D m h g k (alH K f D m h g k) j) → V G mX0_findPairs (d + 10) 0 0 0 0 54 [(8, .int (nI k)), (7, .int (nI g)), (6, .int (nI h)), (0, rf G 43), (1, rf G 3), (2, rf G 18), (3, rf G b), (4, .int (nI m)), (5, .int (nI n))] [] 103 I3 R J Q := by
            refine loopd n (fun I3 hE3 hO3 hN3 hA3 => ?_) (fun k hk ih3 I3 hE3 hO3 hN3 hA3 => ?_)
            · have hF3 : FrQ I I3 := fun a q1 q2 q3 q4 => (hE3 a (by omega) (by omega) (by omega)).trans (hF2 a q1 q2 q3 q4)
              have h93 : I3 43 9 = nI (cnT K f D bk m t) := by rw [hE3 43 (by decide) (by omega) (by decide)]; exact h92
              have h103 : I3 43 10 = (fsT K f D bk m t) := by rw [hE3 43 (by decide) (by omega) (by decide)]; exact h102
              have hold : ∀ I4 : FI, I4 44 = I3 44 → (fitT K f D bk m t = true ∨ ¬ fitT K f D bk m t = true) → (∀ u, u < t + 1 → fitT K f D bk m u = true → ∀ k, k < n → I4 44 (cnT K f D bk m u * 24 + k) = alS K f D m (u / cG K) (u % cG K) k) := by
                intro I4 e4 _ t' ht' c k hk
                rw [e4]
                by_cases e : t' = t
                · rw [e, eA]; exact hN3 k hk
                · have m1 := cnT_mono (K := K) (f := f) (D := D) (bk := bk) (m := m) (t - (t' + 1)) (t' + 1)
                  rw [show t' + 1 + (t - (t' + 1)) = t by omega, show cnT K f D bk m (t' + 1) = cnT K f D bk m t' + (if fitT K f D bk m t' = true then 1 else 0) from rfl, if_pos c] at m1
                  rw [hO3 _ (by omega)]
                  exact hW2 t' (by omega) c k hk
              refine V_iload 56 0 rfl dX0_findPairs_54 rfl ?_
              refine V_iload 58 8 rfl dX0_findPairs_56 rfl ?_
              refine V_icmp_ge 86 61 rfl dX0_findPairs_58 rfl (fun c58 => ?_) (fun c58 => absurd (Int32.le_refl _) c58)
              refine V_aload_n 87 6 rfl _ rfl rfl dX0_findPairs_86 rfl ?_
              refine V_aload_n 88 3 rfl _ rfl rfl dX0_findPairs_87 rfl ?_
              refine V_getR 91 43 0 0 44 (hRK 43 0 (by decide) (by decide) (by decide)) flX0_11 rfl rfl rfl (by decide) dX0_findPairs_88 rfl ?_
              refine V_aload_n 92 3 rfl _ rfl rfl dX0_findPairs_91 rfl ?_
              refine V_getI 95 43 0 9 (nI (cnT K f D bk m t)) h93 flX0_99 rfl rfl rfl (by decide) dX0_findPairs_92 rfl ?_
              refine V_bipush 97 (24) rfl dX0_findPairs_95 rfl ?_
              refine V_imul 98 dX0_findPairs_97 rfl ?_
              refine V_rw (pk_mul (cnT K f D bk m t) 24) ?_
              refine V_callV (K' := 0) (S' := 0) 101 b 1 2 [rf G 44, .int (nI ((cnT K f D bk m t) * 24))] mkX1_isRight lkX0_108 (by decide) rfl (ly_b hb).1 (by omega) rfl (Nat.le_of_ble_eq_true rfl) (Nat.le_of_ble_eq_true rfl) (Nat.le_of_ble_eq_true rfl) (Nat.le_of_ble_eq_true rfl) rfl rfl dX0_findPairs_98 rfl (c_X1_isRight hRK hb (hB.q hb hF3) (S := alS K f D m h g) (p := cnT K f D bk m t * 24) (by omega) (fun k v e => hN3 k (hnd k v e)) (fun er => ?_) (fun er => ?_))
              · refine Kq_i (k' := 0) (sl' := 0) rfl rfl ?_
                refine V_if_eq 140 104 rfl dX0_findPairs_101 rfl (fun c101 => absurd c101 (by decide)) (fun c101 => ?_)
                refine V_aload_n 105 3 rfl _ rfl rfl dX0_findPairs_104 rfl ?_
                refine V_aload_n 106 3 rfl _ rfl rfl dX0_findPairs_105 rfl ?_
                refine V_getI 109 43 0 9 (nI (cnT K f D bk m t)) h93 flX0_99 rfl rfl rfl (by decide) dX0_findPairs_106 rfl ?_
                refine V_if_ne 123 112 rfl dX0_findPairs_109 rfl (fun c109 => ?_) (fun c109 => ?_)
                · refine V_aload_n 124 3 rfl _ rfl rfl dX0_findPairs_123 rfl ?_
                  refine V_getI 127 43 0 10 (fsT K f D bk m t) h103 flX0_102 rfl rfl rfl (by decide) dX0_findPairs_124 rfl ?_
                  refine V_putI 130 43 0 10 flX0_102 rfl rfl rfl (by decide) rfl dX0_findPairs_127 rfl ?_
                  refine V_aload_n 131 3 rfl _ rfl rfl dX0_findPairs_130 rfl ?_
                  refine V_dup 132 rfl dX0_findPairs_131 rfl ?_
                  refine V_getI 135 43 0 9 (nI (cnT K f D bk m t)) (by rw [up2_s, upd_n (by decide)]; exact h93) flX0_99 rfl rfl rfl (by decide) dX0_findPairs_132 rfl ?_
                  refine V_iconst 136 (1) rfl dX0_findPairs_135 rfl ?_
                  refine V_iadd 137 dX0_findPairs_136 rfl ?_
                  refine V_rw (nI_add (cnT K f D bk m t) 1) ?_
                  refine V_putI 140 43 0 9 flX0_99 rfl rfl rfl (by decide) rfl dX0_findPairs_137 rfl ?_
                  refine V_iinc 143 1 rfl (nI (g + 1)) [(7, .int (nI (g + 1))), (8, .int (nI n)), (6, .int (nI h)), (0, rf G 43), (1, rf G 3), (2, rf G 18), (3, rf G b), (4, .int (nI m)), (5, .int (nI n))] (nI_1 _) (by decide) rfl dX0_findPairs_140 rfl ?_
                  refine V_goto 28 rfl dX0_findPairs_143 ?_
                  have ef : fitT K f D bk m t = true := by unfold fitT; rw [d1, d2]; exact er
                  rw [if_pos ef] at e1
                  have c0 : ¬ cnT K f D bk m t = 0 := fun e => c109 (by rw [e]; rfl)
                  have e2 : fsT K f D bk m (t + 1) = fsT K f D bk m t := if_neg (fun q => c0 q.2)
                  exact V_lv [0, 2, 3, 4, 5, 6, 7, 8] rfl (ih2 _ ((hF3.u (by decide)).u (by decide)) (by rw [e1, up2_s]; exact upd_s) (by rw [e2, up2_s, upd_n (by decide), up2_s]; exact upd_s) (hold _ (by rw [up2_n _ _ _ (by decide), up2_n _ _ _ (by decide)]) (Or.inl ef)))
                · refine V_bipush 114 (10) rfl dX0_findPairs_112 rfl ?_
                  refine V_iload 116 2 rfl dX0_findPairs_114 rfl ?_
                  refine V_imul 117 dX0_findPairs_116 rfl ?_
                  refine V_rw (pk_mul 10 h) ?_
                  refine V_iload 119 1 rfl dX0_findPairs_117 rfl ?_
                  refine V_iadd 120 dX0_findPairs_119 rfl ?_
                  refine V_rw (nI_add (10 * h) g) ?_
                  refine V_goto 127 rfl dX0_findPairs_120 ?_
                  refine V_putI 130 43 0 10 flX0_102 rfl rfl rfl (by decide) rfl dX0_findPairs_127 rfl ?_
                  refine V_aload_n 131 3 rfl _ rfl rfl dX0_findPairs_130 rfl ?_
                  refine V_dup 132 rfl dX0_findPairs_131 rfl ?_
                  refine V_getI 135 43 0 9 (nI (cnT K f D bk m t)) (by rw [up2_s, upd_n (by decide)]; exact h93) flX0_99 rfl rfl rfl (by decide) dX0_findPairs_132 rfl ?_
                  refine V_iconst 136 (1) rfl dX0_findPairs_135 rfl ?_
                  refine V_iadd 137 dX0_findPairs_136 rfl ?_
                  refine V_rw (nI_add (cnT K f D bk m t) 1) ?_
                  refine V_putI 140 43 0 9 flX0_99 rfl rfl rfl (by decide) rfl dX0_findPairs_137 rfl ?_
                  refine V_iinc 143 1 rfl (nI (g + 1)) [(7, .int (nI (g + 1))), (8, .int (nI n)), (6, .int (nI h)), (0, rf G 43), (1, rf G 3), (2, rf G 18), (3, rf G b), (4, .int (nI m)), (5, .int (nI n))] (nI_1 _) (by decide) rfl dX0_findPairs_140 rfl ?_
                  refine V_goto 28 rfl dX0_findPairs_143 ?_
                  have ef : fitT K f D bk m t = true := by unfold fitT; rw [d1, d2]; exact er
                  rw [if_pos ef] at e1
                  have c0 : cnT K f D bk m t = 0 := (nI_eq (b := 0) (by omega) (by decide)).mp c109
                  have e2 : fsT K f D bk m (t + 1) = nI (10 * h + g) := by rw [show fsT K f D bk m (t + 1) = nI (10 * (t / cG K) + t % cG K) from if_pos ⟨ef, c0⟩, d1, d2]
                  exact V_lv [0, 2, 3, 4, 5, 6, 7, 8] rfl (ih2 _ ((hF3.u (by decide)).u (by decide)) (by rw [e1, up2_s]; exact upd_s) (by rw [e2, up2_s, upd_n (by decide), up2_s]; exact upd_s) (hold _ (by rw [up2_n _ _ _ (by decide), up2_n _ _ _ (by decide)]) (Or.inl ef)))
              · refine Kq_i (k' := 0) (sl' := 0) rfl rfl ?_
                refine V_if_eq 140 104 rfl dX0_findPairs_101 rfl (fun c101 => ?_) (fun c101 => absurd c101 (by decide))
                refine V_iinc 143 1 rfl (nI (g + 1)) [(7, .int (nI (g + 1))), (8, .int (nI n)), (6, .int (nI h)), (0, rf G 43), (1, rf G 3), (2, rf G 18), (3, rf G b), (4, .int (nI m)), (5, .int (nI n))] (nI_1 _) (by decide) rfl dX0_findPairs_140 rfl ?_
                refine V_goto 28 rfl dX0_findPairs_143 ?_
                have ef : fitT K f D bk m t = false := by unfold fitT; rw [d1, d2]; exact er
                rw [if_neg (by rw [ef]; decide), Nat.add_zero] at e1
                have e2 : fsT K f D bk m (t + 1) = fsT K f D bk m t := if_neg (fun q => by rw [ef] at q; exact absurd q.1 (by decide))
                exact V_lv [0, 2, 3, 4, 5, 6, 7, 8] rfl (ih2 I3 hF3 (by rw [e1]; exact h93) (by rw [e2]; exact h103) (hold I3 rfl (Or.inr (by rw [ef]; decide))))
            · have hF3 : FrQ I I3 := fun a q1 q2 q3 q4 => (hE3 a (by omega) (by omega) (by omega)).trans (hF2 a q1 q2 q3 q4)
              have h93 : I3 43 9 = nI (cnT K f D bk m t) := by rw [hE3 43 (by decide) (by omega) (by decide)]; exact h92
              refine V_iload 56 0 rfl dX0_findPairs_54 rfl ?_
              refine V_iload 58 8 rfl dX0_findPairs_56 rfl ?_
              refine V_icmp_ge 86 61 rfl dX0_findPairs_58 rfl (fun c58 => absurd c58 (nI_ge hk (by omega))) (fun c58 => ?_)
              refine V_aload_n 62 3 rfl _ rfl rfl dX0_findPairs_61 rfl ?_
              refine V_getR 65 43 0 0 44 (hRK 43 0 (by decide) (by decide) (by decide)) flX0_11 rfl rfl rfl (by decide) dX0_findPairs_62 rfl ?_
              refine V_aload_n 66 3 rfl _ rfl rfl dX0_findPairs_65 rfl ?_
              refine V_getI 69 43 0 9 (nI (cnT K f D bk m t)) h93 flX0_99 rfl rfl rfl (by decide) dX0_findPairs_66 rfl ?_
              refine V_bipush 71 (24) rfl dX0_findPairs_69 rfl ?_
              refine V_imul 72 dX0_findPairs_71 rfl ?_
              refine V_rw (pk_mul (cnT K f D bk m t) 24) ?_
              refine V_iload 74 0 rfl dX0_findPairs_72 rfl ?_
              refine V_iadd 75 dX0_findPairs_74 rfl ?_
              refine V_rw (nI_add ((cnT K f D bk m t) * 24) k) ?_
              refine V_aload_n 76 4 rfl _ rfl rfl dX0_findPairs_75 rfl ?_
              refine V_callV (K' := 0) (S' := 0) 79 3 7 0 [] mkX7_nextSea lkX0_58 (by decide) rfl rfl (by decide) rfl (Nat.le_of_ble_eq_true rfl) (Nat.le_of_ble_eq_true rfl) (Nat.le_of_ble_eq_true rfl) (Nat.le_of_ble_eq_true rfl) rfl rfl dX0_findPairs_76 rfl (c_X7_nx (hX.fr hF3) hA3 (fun I4 hF4 hA4 => ?_))
              refine Kq_i (k' := 0) (sl' := 0) rfl rfl ?_
              refine V_iastN 80 44 1152 (((cnT K f D bk m t) * 24) + k) (by omega) (by decide) rfl (by decide) dX0_findPairs_79 rfl ?_
              refine V_iinc 83 0 rfl (nI (k + 1)) [(8, .int (nI (k + 1))), (7, .int (nI g)), (6, .int (nI h)), (0, rf G 43), (1, rf G 3), (2, rf G 18), (3, rf G b), (4, .int (nI m)), (5, .int (nI n))] (nI_1 _) (by decide) rfl dX0_findPairs_80 rfl ?_
              refine V_goto 54 rfl dX0_findPairs_83 ?_
              have e44 : ∀ j, I4 44 j = I3 44 j := fun j => by rw [hF4 44 (by decide) (by omega)]
              refine V_lv [0, 1, 2, 3, 4, 5, 6, 7, 8] rfl (ih3 _ (fun a q1 q2 q3 => by rw [up2_n _ _ _ q3, hF4 a q1 q2]; exact hE3 a q1 q2 q3) (fun j hj => by rw [up2_s, upd_n (by omega), e44]; exact hO3 j hj) (fun j hj => ?_) (fun j hj => by rw [up2_n _ _ _ (by decide)]; exact hA4 j hj))
              rw [up2_s]
              by_cases e : j = k
              · subst e; exact upd_s
              · rw [upd_n (by omega), e44]; exact hN3 j (by omega)
          refine V_iload 30 0 rfl dX0_findPairs_28 rfl ?_
          refine V_aload_n 31 3 rfl _ rfl rfl dX0_findPairs_30 rfl ?_
          refine V_getR 34 3 7 0 c hR3c flX0_37 rfl rfl rfl (by decide) dX0_findPairs_31 rfl ?_
          refine V_getI 37 c 2 7 (nI (cG K)) hX2.2.2.2.2.1.2.1 flX0_105 rfl (ly_c hc).1 rfl (by omega) dX0_findPairs_34 rfl ?_
          refine V_icmp_ge 146 40 rfl dX0_findPairs_37 rfl (fun c37 => absurd c37 (nI_ge hg (by omega))) (fun c37 => ?_)
          refine V_aload_n 41 3 rfl _ rfl rfl dX0_findPairs_40 rfl ?_
          refine V_aload_n 42 4 rfl _ rfl rfl dX0_findPairs_41 rfl ?_
          refine V_iload 44 6 rfl dX0_findPairs_42 rfl ?_
          refine V_iload 46 1 rfl dX0_findPairs_44 rfl ?_
          refine V_iload 48 0 rfl dX0_findPairs_46 rfl ?_
          refine V_callV (K' := 0) (S' := 0) 51 3 7 4 [rf G 18, .int (nI m), .int (nI h), .int (nI g)] mkX7_standAlone lkX0_54 (by decide) rfl rfl (by decide) rfl (Nat.le_of_ble_eq_true rfl) (Nat.le_of_ble_eq_true rfl) (Nat.le_of_ble_eq_true rfl) (Nat.le_of_ble_eq_true rfl) rfl rfl dX0_findPairs_48 rfl (c_X7_sa hX2 hm hh hg (fun I3 hF3 hA3 => ?_))
          refine Kq_v (k' := 0) (sl' := 0) rfl rfl ?_
          refine V_iconst 52 (0) rfl dX0_findPairs_51 rfl ?_
          refine V_istore 54 [(8, .int 0), (7, .int (nI g)), (6, .int (nI h)), (0, rf G 43), (1, rf G 3), (2, rf G 18), (3, rf G b), (4, .int (nI m)), (5, .int (nI n))] (by decide) rfl dX0_findPairs_52 rfl ?_
          exact V_lv [0, 1, 2, 3, 4, 5, 6, 7, 8] rfl (L3 0 (Nat.zero_le _) I3 (fun a q1 _ _ => hF3 a q1) (fun j _ => by rw [hF3 44 (by decide)]) (fun j hj => absurd hj (Nat.not_lt_zero _)) hA3)
      have hX1 := hX.fr hF1
      refine V_iload 15 0 rfl dX0_findPairs_13 rfl ?_
      refine V_aload_n 16 2 rfl _ rfl rfl dX0_findPairs_15 rfl ?_
      refine V_getR 19 3 7 0 c hR3c flX0_37 rfl rfl rfl (by decide) dX0_findPairs_16 rfl ?_
      refine V_getI 22 c 2 6 (nI (cH K)) hX1.2.2.2.2.1.1 flX0_43 rfl (ly_c hc).1 rfl (by omega) dX0_findPairs_19 rfl ?_
      refine V_icmp_ge 152 25 rfl dX0_findPairs_22 rfl (fun c22 => absurd c22 (nI_ge hh (by omega))) (fun c22 => ?_)
      refine V_iconst 26 (0) rfl dX0_findPairs_25 rfl ?_
      refine V_istore 28 [(7, .int 0), (6, .int (nI h)), (0, rf G 43), (1, rf G 3), (2, rf G 18), (3, rf G b), (4, .int (nI m)), (5, .int (nI n))] (by decide) rfl dX0_findPairs_26 rfl ?_
      exact V_lv [0, 1, 2, 3, 4, 5, 6, 7] rfl (L2 0 (Nat.zero_le _) I1 hF1 h91 h101 hW1)
  show V _ _ _ _ _ _ _ _ [(0, rf G 43), (1, rf G 3), (2, rf G 18), (3, rf G b), (4, .int (nI m)), (5, .int (nI n))] [] _ _ _ _ _
  refine V_aload_n 1 0 rfl _ rfl rfl dX0_findPairs_0 rfl ?_
  refine V_iconst 2 (0) rfl dX0_findPairs_1 rfl ?_
  refine V_putI 5 43 0 9 flX0_99 rfl rfl rfl (by decide) rfl dX0_findPairs_2 rfl ?_
  refine V_aload_n 6 0 rfl _ rfl rfl dX0_findPairs_5 rfl ?_
  refine V_iconst 7 (-1) rfl dX0_findPairs_6 rfl ?_
  refine V_putI 10 43 0 10 flX0_102 rfl rfl rfl (by decide) rfl dX0_findPairs_7 rfl ?_
  refine V_iconst 11 (0) rfl dX0_findPairs_10 rfl ?_
  refine V_istore 13 [(6, .int 0), (0, rf G 43), (1, rf G 3), (2, rf G 18), (3, rf G b), (4, .int (nI m)), (5, .int (nI n))] (by decide) rfl dX0_findPairs_11 rfl ?_
  have L0 := L 0 (Nat.zero_le _)
  rw [Nat.zero_mul] at L0
  exact V_lv [0, 1, 2, 3, 4, 5, 6] rfl (L0 _ ((FrQ.rf.u (by decide)).u (by decide)) (by rw [up2_s, upd_n (by decide), up2_s]; exact upd_s) (by rw [up2_s]; exact upd_s) (fun t ht => absurd ht (Nat.not_lt_zero _)))
set_option maxHeartbeats 8000000 in
theorem c_X0_mostAlike {G : Gx} {d : Nat} {I : FI} {R : FR} {J : FJ} {Q : Po} (hRK : RK R) {K : CO} {f : DV → Int32} {D : DV} {bk : Nat → Option Nat} {m k : Nat} (hfR : fR f) (h48 : cH K * cG K ≤ 48) (hk : k < 24) (h9 : I 43 9 = nI (cnT K f D bk m (cH K * cG K))) (hW : ∀ t, t < cH K * cG K → fitT K f D bk m t = true → I 44 (cnT K f D bk m t * 24 + k) = alS K f D m (t / cG K) (t % cG K) k) (hq : ∀ I', (∀ a, a ≠ 45 → I' a = I a) → Q (.inl (some (.int (nI (tyT K f D bk m k (cH K * cG K)).2)))) 103 I' R J) : Cc G mX0_mostAlike (d + 2) 0 0 [rf G 43, .int (nI k)] 103 I R J Q := by
  obtain ⟨I1, eI1⟩ : ∃ I1, I1 = upA I 45 (fiF (I 45) 0 100) := ⟨_, rfl⟩
  have hF1 : ∀ a, a ≠ 45 → I1 a = I a := fun a q => by rw [eI1]; exact upA_n q
  have g1 : ∀ v, v < 100 → I1 45 v = 0 := fun v hv => by rw [eI1, upA_s]; exact if_pos hv
  have cN := cnT_le (K := K) (f := f) (D := D) (bk := bk) (m := m) (cH K * cG K)
  have L : ∀ j, j ≤ cnT K f D bk m (cH K * cG K) → ∀ t, t ≤ cH K * cG K → cnT K f D bk m t = j → ∀ I2, (∀ a, a ≠ 45 → I2 a = I a) → (∀ v, v < 100 → I2 45 v = nI ((tyT K f D bk m k t).1 v)) → V G mX0_mostAlike (d + 2) 0 0 0 0 12 [(3, .int (nI j)), (2, .int (nI (tyT K f D bk m k t).2)), (0, rf G 43), (1, .int (nI k))] [] 103 I2 R J Q := by
    refine loopd (cnT K f D bk m (cH K * cG K)) (fun t ht hc I2 hF2 hT2 => ?_) (fun j hj ih t ht hc I2 hF2 hT2 => ?_)
    · refine V_iload_n 13 0 rfl rfl dX0_mostAlike_12 rfl ?_
      refine V_aload_n 14 2 rfl _ rfl rfl dX0_mostAlike_13 rfl ?_
      refine V_getI 17 43 0 9 (nI (cnT K f D bk m (cH K * cG K))) (by rw [hF2 43 (by decide)]; exact h9) flX0_99 rfl rfl rfl (by decide) dX0_mostAlike_14 rfl ?_
      refine V_icmp_ge 62 20 rfl dX0_mostAlike_17 rfl (fun c17 => ?_) (fun c17 => absurd (Int32.le_refl _) c17)
      refine V_iload_n 63 1 rfl rfl dX0_mostAlike_62 rfl ?_
      refine V_ret_i rfl rfl (Nat.le_of_ble_eq_true rfl) (fun h => absurd h (by decide)) (Nat.le_of_ble_eq_true rfl) (by have e := tyT_skip (k := k) (cH K * cG K - t) t (by rw [show t + (cH K * cG K - t) = cH K * cG K by omega]; exact hc.symm); rw [show t + (cH K * cG K - t) = cH K * cG K by omega] at e; rw [← e]; exact hq I2 hF2) dX0_mostAlike_63
    · obtain ⟨u, u1, u2, u3⟩ := cnT_at (cH K * cG K) hj
      have eu : tyT K f D bk m k t = tyT K f D bk m k u := by
        rcases Nat.le_total t u with c | c
        · have := tyT_skip (K := K) (f := f) (D := D) (bk := bk) (m := m) (k := k) (u - t) t (by rw [show t + (u - t) = u by omega]; omega)
          rw [show t + (u - t) = u by omega] at this
          exact this.symm
        · have := tyT_skip (K := K) (f := f) (D := D) (bk := bk) (m := m) (k := k) (t - u) u (by rw [show u + (t - u) = t by omega]; omega)
          rw [show u + (t - u) = t by omega] at this
          exact this
      rw [eu] at hT2 ⊢
      obtain ⟨q, q99, eq⟩ := alS_R (K := K) hfR D m (u / cG K) (u % cG K) k
      obtain ⟨ty2, ty1⟩ := tyT_le (K := K) (f := f) (D := D) (bk := bk) (m := m) (k := k) u
      have tq := ty1 q
      have es : tyT K f D bk m k (u + 1) = (fun v => if v = q then (tyT K f D bk m k u).1 v + 1 else (tyT K f D bk m k u).1 v, max (tyT K f D bk m k u).2 ((tyT K f D bk m k u).1 q + 1)) := by
        have z : (alS K f D m (u / cG K) (u % cG K) k).toNatClampNeg = q := by rw [eq, nI_clamp (by omega)]
        rw [tyT, if_pos u2, z]
      have ih := ih (u + 1) (by omega) (by rw [cnT, if_pos u2, u3])
      rw [es] at ih
      dsimp only at ih
      refine V_iload_n 13 0 rfl rfl dX0_mostAlike_12 rfl ?_
      refine V_aload_n 14 2 rfl _ rfl rfl dX0_mostAlike_13 rfl ?_
      refine V_getI 17 43 0 9 (nI (cnT K f D bk m (cH K * cG K))) (by rw [hF2 43 (by decide)]; exact h9) flX0_99 rfl rfl rfl (by decide) dX0_mostAlike_14 rfl ?_
      refine V_icmp_ge 62 20 rfl dX0_mostAlike_17 rfl (fun c17 => absurd c17 (nI_ge hj (by omega))) (fun c17 => ?_)
      refine V_aload_n 21 2 rfl _ rfl rfl dX0_mostAlike_20 rfl ?_
      refine V_getR 24 43 0 0 44 (hRK 43 0 (by decide) (by decide) (by decide)) flX0_11 rfl rfl rfl (by decide) dX0_mostAlike_21 rfl ?_
      refine V_iload_n 25 0 rfl rfl dX0_mostAlike_24 rfl ?_
      refine V_bipush 27 (24) rfl dX0_mostAlike_25 rfl ?_
      refine V_imul 28 dX0_mostAlike_27 rfl ?_
      refine V_rw (pk_mul j 24) ?_
      refine V_iload_n 29 3 rfl rfl dX0_mostAlike_28 rfl ?_
      refine V_iadd 30 dX0_mostAlike_29 rfl ?_
      refine V_rw (nI_add (j * 24) k) ?_
      refine V_ialdN 31 44 1152 ((j * 24) + k) (nI q) ((by rw [hF2 44 (by decide), ← u3]; exact hW u u1 u2 : I2 44 (j * 24 + k) = _).trans eq) (by omega) (by decide) rfl (by decide) dX0_mostAlike_30 rfl ?_
      refine V_istore 33 [(4, .int (nI q)), (3, .int (nI j)), (2, .int (nI (tyT K f D bk m k u).2)), (0, rf G 43), (1, .int (nI k))] (by decide) rfl dX0_mostAlike_31 rfl ?_
      refine V_aload_n 34 3 rfl _ rfl rfl dX0_mostAlike_33 rfl ?_
      refine V_getR 37 43 0 1 45 (hRK 43 1 (by decide) (by decide) (by decide)) flX0_15 rfl rfl rfl (by decide) dX0_mostAlike_34 rfl ?_
      refine V_iload 39 0 rfl dX0_mostAlike_37 rfl ?_
      refine V_dup2 40 rfl rfl dX0_mostAlike_39 rfl ?_
      refine V_ialdN 41 45 100 q (nI ((tyT K f D bk m k u).1 q)) (hT2 q (by omega)) (by omega) (by decide) rfl (by decide) dX0_mostAlike_40 rfl ?_
      refine V_iconst 42 (1) rfl dX0_mostAlike_41 rfl ?_
      refine V_iadd 43 dX0_mostAlike_42 rfl ?_
      refine V_rw (nI_add ((tyT K f D bk m k u).1 q) 1) ?_
      refine V_iastN 44 45 100 q (by omega) (by decide) rfl (by decide) dX0_mostAlike_43 rfl ?_
      refine V_iload_n 45 2 rfl rfl dX0_mostAlike_44 rfl ?_
      refine V_aload_n 46 3 rfl _ rfl rfl dX0_mostAlike_45 rfl ?_
      refine V_getR 49 43 0 1 45 (hRK 43 1 (by decide) (by decide) (by decide)) flX0_15 rfl rfl rfl (by decide) dX0_mostAlike_46 rfl ?_
      refine V_iload 51 0 rfl dX0_mostAlike_49 rfl ?_
      refine V_ialdN 52 45 100 q (nI ((tyT K f D bk m k u).1 q + 1)) (by rw [up2_s]; exact upd_s) (by omega) (by decide) rfl (by decide) dX0_mostAlike_51 rfl ?_
      refine V_max 55 lkX0_123 (Nat.le_of_ble_eq_true rfl) (Nat.le_of_ble_eq_true rfl) (Nat.le_of_ble_eq_true rfl) dX0_mostAlike_52 rfl ?_
      refine V_rw (show _ = nI (max (tyT K f D bk m k u).2 ((tyT K f D bk m k u).1 q + 1)) from mx_eq (by omega) (by omega)) ?_
      refine V_istore_n 56 [(2, .int (nI (max (tyT K f D bk m k u).2 ((tyT K f D bk m k u).1 q + 1)))), (4, .int (nI q)), (3, .int (nI j)), (0, rf G 43), (1, .int (nI k))] (by decide) rfl rfl dX0_mostAlike_55 rfl ?_
      refine V_iinc 59 2 rfl (nI (j + 1)) [(3, .int (nI (j + 1))), (2, .int (nI (max (tyT K f D bk m k u).2 ((tyT K f D bk m k u).1 q + 1)))), (4, .int (nI q)), (0, rf G 43), (1, .int (nI k))] (nI_1 _) (by decide) rfl dX0_mostAlike_56 rfl ?_
      refine V_goto 12 rfl dX0_mostAlike_59 ?_
      refine V_lv [0, 1, 3, 4] rfl (ih _ (fun a z => by rw [up2_n _ _ _ z]; exact hF2 a z) (fun v hv => ?_))
      rw [up2_s]
      by_cases c : v = q
      · subst c; rw [upd_s, if_pos rfl]
      · rw [upd_n c, if_neg c]; exact hT2 v hv
  show V _ _ _ _ _ _ _ _ [(0, rf G 43), (1, .int (nI k))] [] _ _ _ _ _
  refine V_aload_n 1 0 rfl _ rfl rfl dX0_mostAlike_0 rfl ?_
  refine V_getR 4 43 0 1 45 (hRK 43 1 (by decide) (by decide) (by decide)) flX0_15 rfl rfl rfl (by decide) dX0_mostAlike_1 rfl ?_
  refine V_iconst 5 (0) rfl dX0_mostAlike_4 rfl ?_
  refine V_callS (K' := 0) (S' := 0) 8 2 [rf G 45, .int 0] mkJ7_fill_53178 lkX0_62 rfl (Nat.le_of_ble_eq_true rfl) (Nat.le_of_ble_eq_true rfl) (Nat.le_of_ble_eq_true rfl) (Nat.le_of_ble_eq_true rfl) rfl rfl dX0_mostAlike_5 rfl (c_J7_fill_45 ?_)
  rw [← eI1]
  refine Kq_v (k' := 0) (sl' := 0) rfl rfl ?_
  refine V_iconst 9 (0) rfl dX0_mostAlike_8 rfl ?_
  refine V_istore_n 10 [(2, .int 0), (0, rf G 43), (1, .int (nI k))] (by decide) rfl rfl dX0_mostAlike_9 rfl ?_
  refine V_iconst 11 (0) rfl dX0_mostAlike_10 rfl ?_
  refine V_istore_n 12 [(3, .int 0), (2, .int 0), (0, rf G 43), (1, .int (nI k))] (by decide) rfl rfl dX0_mostAlike_11 rfl ?_
  exact V_lv [0, 1, 2, 3] rfl (L 0 (Nat.zero_le _) 0 (Nat.zero_le _) rfl I1 hF1 (fun v hv => g1 v hv))
set_option maxHeartbeats 8000000 in
theorem c_X0_chooseHour {G : Gx} {d : Nat} {I : FI} {R : FR} {J : FJ} {Q : Po} {c l b : Nat} {K : CO} {f : DV → Int32} {D : DV} (hX : RC I R c l b K f D) {nb : Nat} {bk : Nat → Option Nat} (hB : BookC I b nb bk) {m : Nat} (h9 : I 43 9 = nI (cnT K f D bk m (cH K * cG K))) (hWr : ∀ t, t < cH K * cG K → fitT K f D bk m t = true → ∀ k, k < 24 → I 44 (cnT K f D bk m t * 24 + k) = alS K f D m (t / cG K) (t % cG K) k) (hq : ∀ I', FrQ I I' → I' 43 6 = (loT K f D bk m 24).1 → I' 43 8 = (loT K f D bk m 24).2 → Q (.inl none) 103 I' R J) : Cc G mX0_chooseHour (d + 10) 0 0 [rf G 43, rf G b] 103 I R J Q := by
  have hXc := hX
  obtain ⟨hRS, hc, hl, hb, hC, hW, hD, hI, hL⟩ := hXc
  have hRK := hRS.K
  have hR3c : R 3 0 = some c := hRS 3 0 (by decide)
  have hR3l : R 3 1 = some l := hRS 3 1 (by decide)
  have hR32 : R 3 2 = some 16 := hRS 3 2 (by decide)
  have hR33 : R 3 3 = some 17 := hRS 3 3 (by decide)
  have h8 := hW.1
  have hg6 := hW.2.1
  have h6 := hW.2.2.1
  have hWD := hI.1
  have hFl := hI.1.1
  have h48 : cH K * cG K ≤ 48 := Nat.mul_le_mul h8 hg6
  have L : ∀ k, k ≤ 24 → ∀ I1, (∀ a, a ≠ 43 → a ≠ 45 → I1 a = I a) → I1 43 9 = I 43 9 → I1 43 6 = (loT K f D bk m k).1 → I1 43 8 = (loT K f D bk m k).2 → V G mX0_chooseHour (d + 10) 0 0 0 0 12 [(2, .int (nI k)), (0, rf G 43), (1, rf G b)] [] 103 I1 R J Q := by
    refine loopd 24 (fun I1 hF1 h91 h61 h81 => ?_) (fun k hk ih I1 hF1 h91 h61 h81 => ?_)
    · refine V_iload_n 13 0 rfl rfl dX0_chooseHour_12 rfl ?_
      refine V_bipush 15 (24) rfl dX0_chooseHour_13 rfl ?_
      refine V_icmp_ge 67 18 rfl dX0_chooseHour_15 rfl (fun c15 => ?_) (fun c15 => absurd (Int32.le_refl _) c15)
      refine V_ret_v rfl (Nat.le_of_ble_eq_true rfl) (fun h => absurd h (by decide)) (Nat.le_of_ble_eq_true rfl) (hq I1 (fun a q1 q2 q3 q4 => hF1 a (by omega) (by omega)) h61 h81) dX0_chooseHour_67
    · have hQ1 : FrQ I I1 := (fun a q1 q2 q3 q4 => hF1 a (by omega) (by omega))
      refine V_iload_n 13 0 rfl rfl dX0_chooseHour_12 rfl ?_
      refine V_bipush 15 (24) rfl dX0_chooseHour_13 rfl ?_
      refine V_icmp_ge 67 18 rfl dX0_chooseHour_15 rfl (fun c15 => absurd c15 (nI_ge hk (by decide))) (fun c15 => ?_)
      refine V_aload_n 19 2 rfl _ rfl rfl dX0_chooseHour_18 rfl ?_
      refine V_iload_n 20 0 rfl rfl dX0_chooseHour_19 rfl ?_
      refine V_callV (K' := 0) (S' := 0) 23 b 1 1 [.int (nI k)] mkX1_isTold lkX0_117 (by decide) rfl (ly_b hb).1 (by omega) rfl (Nat.le_of_ble_eq_true rfl) (Nat.le_of_ble_eq_true rfl) (Nat.le_of_ble_eq_true rfl) (Nat.le_of_ble_eq_true rfl) rfl rfl dX0_chooseHour_20 rfl (c_X1_isTold hRK hb (hB.q hb hQ1) (by omega) (fun eb => ?_) (fun eb => ?_))
      · refine Kq_i (k' := 0) (sl' := 0) rfl rfl ?_
        refine V_if_eq 29 26 rfl dX0_chooseHour_23 rfl (fun c23 => absurd c23 (by decide)) (fun c23 => ?_)
        refine V_goto 61 rfl dX0_chooseHour_26 ?_
        refine V_iinc 64 0 rfl (nI (k + 1)) [(2, .int (nI (k + 1))), (0, rf G 43), (1, rf G b)] (nI_1 _) (by decide) rfl dX0_chooseHour_61 rfl ?_
        refine V_goto 12 rfl dX0_chooseHour_64 ?_
        have eS : loT K f D bk m (k + 1) = loT K f D bk m k := if_neg eb
        rw [eS] at ih
        exact V_lv [0, 1, 2] rfl (ih I1 hF1 h91 h61 h81)
      · refine Kq_i (k' := 0) (sl' := 0) rfl rfl ?_
        refine V_if_eq 29 26 rfl dX0_chooseHour_23 rfl (fun c23 => ?_) (fun c23 => absurd c23 (by decide))
        refine V_aload_n 30 1 rfl _ rfl rfl dX0_chooseHour_29 rfl ?_
        refine V_iload_n 31 0 rfl rfl dX0_chooseHour_30 rfl ?_
        refine V_callV (K' := 0) (S' := 0) 34 43 0 1 [.int (nI k)] mkX0_mostAlike lkX0_120 (by decide) rfl rfl (by decide) rfl (Nat.le_of_ble_eq_true rfl) (Nat.le_of_ble_eq_true rfl) (Nat.le_of_ble_eq_true rfl) (Nat.le_of_ble_eq_true rfl) rfl rfl dX0_chooseHour_31 rfl (c_X0_mostAlike hRK hL.R h48 hk (h91.trans h9) (fun t a c => by rw [hF1 44 (by decide) (by decide)]; exact hWr t a c k hk) (fun I2 hF2 => ?_))
        refine Kq_i (k' := 0) (sl' := 0) rfl rfl ?_
        refine V_istore_n 35 [(3, .int (nI (tyT K f D bk m k (cH K * cG K)).2)), (2, .int (nI k)), (0, rf G 43), (1, rf G b)] (by decide) rfl rfl dX0_chooseHour_34 rfl ?_
        refine V_aload_n 36 2 rfl _ rfl rfl dX0_chooseHour_35 rfl ?_
        refine V_getI 39 43 0 6 ((loT K f D bk m k).1) (by rw [hF2 43 (by decide)]; exact h61) flX0_30 rfl rfl rfl (by decide) dX0_chooseHour_36 rfl ?_
        refine V_iconst 40 (-1) rfl dX0_chooseHour_39 rfl ?_
        refine V_icmp_eq 51 43 rfl dX0_chooseHour_40 rfl (fun c40 => ?_) (fun c40 => ?_)
        · refine V_aload_n 52 2 rfl _ rfl rfl dX0_chooseHour_51 rfl ?_
          refine V_iload_n 53 1 rfl rfl dX0_chooseHour_52 rfl ?_
          refine V_putI 56 43 0 6 flX0_30 rfl rfl rfl (by decide) rfl dX0_chooseHour_53 rfl ?_
          refine V_aload_n 57 2 rfl _ rfl rfl dX0_chooseHour_56 rfl ?_
          refine V_iload_n 58 0 rfl rfl dX0_chooseHour_57 rfl ?_
          refine V_putI 61 43 0 8 flX0_114 rfl rfl rfl (by decide) rfl dX0_chooseHour_58 rfl ?_
          refine V_iinc 64 1 rfl (nI (k + 1)) [(2, .int (nI (k + 1))), (3, .int (nI (tyT K f D bk m k (cH K * cG K)).2)), (0, rf G 43), (1, rf G b)] (nI_1 _) (by decide) rfl dX0_chooseHour_61 rfl ?_
          refine V_goto 12 rfl dX0_chooseHour_64 ?_
          have eS : loT K f D bk m (k + 1) = (nI k, nI (tyT K f D bk m k (cH K * cG K)).2) := by rw [loT, if_pos eb, if_pos (by first | exact Or.inl c40 | exact Or.inr (Int32.not_le.mp c48))]
          rw [eS] at ih
          exact V_lv [0, 2, 3] rfl (ih _ (fun a q1 q2 => by rw [up2_n _ _ _ q1, up2_n _ _ _ q1, hF2 a q2]; exact hF1 a q1 q2) (by rw [up2_s, upd_n (by decide), up2_s, upd_n (by decide), hF2 43 (by decide)]; exact h91) (by rw [up2_s, upd_n (by decide), up2_s]; exact upd_s) (by rw [up2_s]; exact upd_s))
        · refine V_iload_n 44 0 rfl rfl dX0_chooseHour_43 rfl ?_
          refine V_aload_n 45 2 rfl _ rfl rfl dX0_chooseHour_44 rfl ?_
          refine V_getI 48 43 0 8 ((loT K f D bk m k).2) (by rw [hF2 43 (by decide)]; exact h81) flX0_114 rfl rfl rfl (by decide) dX0_chooseHour_45 rfl ?_
          refine V_icmp_ge 61 51 rfl dX0_chooseHour_48 rfl (fun c48 => ?_) (fun c48 => ?_)
          · refine V_iinc 64 1 rfl (nI (k + 1)) [(2, .int (nI (k + 1))), (3, .int (nI (tyT K f D bk m k (cH K * cG K)).2)), (0, rf G 43), (1, rf G b)] (nI_1 _) (by decide) rfl dX0_chooseHour_61 rfl ?_
            refine V_goto 12 rfl dX0_chooseHour_64 ?_
            have eS : loT K f D bk m (k + 1) = loT K f D bk m k := by rw [loT, if_pos eb, if_neg (fun q => q.elim c40 (fun r => Int32.not_lt.mpr c48 r))]
            rw [eS] at ih
            exact V_lv [0, 2, 3] rfl (ih I2 (fun a q1 q2 => (hF2 a q2).trans (hF1 a q1 q2)) (by rw [hF2 43 (by decide)]; exact h91) (by rw [hF2 43 (by decide)]; exact h61) (by rw [hF2 43 (by decide)]; exact h81))
          · refine V_aload_n 52 2 rfl _ rfl rfl dX0_chooseHour_51 rfl ?_
            refine V_iload_n 53 1 rfl rfl dX0_chooseHour_52 rfl ?_
            refine V_putI 56 43 0 6 flX0_30 rfl rfl rfl (by decide) rfl dX0_chooseHour_53 rfl ?_
            refine V_aload_n 57 2 rfl _ rfl rfl dX0_chooseHour_56 rfl ?_
            refine V_iload_n 58 0 rfl rfl dX0_chooseHour_57 rfl ?_
            refine V_putI 61 43 0 8 flX0_114 rfl rfl rfl (by decide) rfl dX0_chooseHour_58 rfl ?_
            refine V_iinc 64 1 rfl (nI (k + 1)) [(2, .int (nI (k + 1))), (3, .int (nI (tyT K f D bk m k (cH K * cG K)).2)), (0, rf G 43), (1, rf G b)] (nI_1 _) (by decide) rfl dX0_chooseHour_61 rfl ?_
            refine V_goto 12 rfl dX0_chooseHour_64 ?_
            have eS : loT K f D bk m (k + 1) = (nI k, nI (tyT K f D bk m k (cH K * cG K)).2) := by rw [loT, if_pos eb, if_pos (by first | exact Or.inl c40 | exact Or.inr (Int32.not_le.mp c48))]
            rw [eS] at ih
            exact V_lv [0, 2, 3] rfl (ih _ (fun a q1 q2 => by rw [up2_n _ _ _ q1, up2_n _ _ _ q1, hF2 a q2]; exact hF1 a q1 q2) (by rw [up2_s, upd_n (by decide), up2_s, upd_n (by decide), hF2 43 (by decide)]; exact h91) (by rw [up2_s, upd_n (by decide), up2_s]; exact upd_s) (by rw [up2_s]; exact upd_s))
  show V _ _ _ _ _ _ _ _ [(0, rf G 43), (1, rf G b)] [] _ _ _ _ _
  refine V_aload_n 1 0 rfl _ rfl rfl dX0_chooseHour_0 rfl ?_
  refine V_iconst 2 (-1) rfl dX0_chooseHour_1 rfl ?_
  refine V_putI 5 43 0 6 flX0_30 rfl rfl rfl (by decide) rfl dX0_chooseHour_2 rfl ?_
  refine V_aload_n 6 0 rfl _ rfl rfl dX0_chooseHour_5 rfl ?_
  refine V_iconst 7 (-1) rfl dX0_chooseHour_6 rfl ?_
  refine V_putI 10 43 0 8 flX0_114 rfl rfl rfl (by decide) rfl dX0_chooseHour_7 rfl ?_
  refine V_iconst 11 (0) rfl dX0_chooseHour_10 rfl ?_
  refine V_istore_n 12 [(2, .int 0), (0, rf G 43), (1, rf G b)] (by decide) rfl rfl dX0_chooseHour_11 rfl ?_
  exact V_lv [0, 1, 2] rfl (L 0 (Nat.zero_le _) _ (fun a q1 q2 => by rw [up2_n _ _ _ q1, up2_n _ _ _ q1]) (by rw [up2_s, upd_n (by decide), up2_s, upd_n (by decide)]) (by rw [up2_s, upd_n (by decide), up2_s]; exact upd_s) (by rw [up2_s]; exact upd_s))
set_option maxHeartbeats 8000000 in
theorem c_X10_fits {G : Gx} {d : Nat} {I : FI} {R : FR} {J : FJ} {Q : Po} {c l b : Nat} {K : CO} {f : DV → Int32} {D : DV} (hX : RC I R c l b K f D) {x y : Int32} {nb : Nat} {bk : Nat → Option Nat} (hB : BookC I b nb bk) (hq : Ho I R J Q (ckN x (cM K) (ckW y 0 1 (.inl (if y = 0 then nI (cnT K f D bk x.toNatClampNeg (cH K * cG K)) else fsT K f D bk x.toNatClampNeg (cH K * cG K)))))) : Cc G mX10_fits (d + 60) 8 48 [rf G 0, .int x, .int y] 103 I R J Q := by
  obtain ⟨hRS, hc, hl, hb, hC, hW, hD, hI, hL⟩ := hX
  have hRK := hRS.K
  have hR3c : R 3 0 = some c := hRS 3 0 (by decide)
  have hR3l : R 3 1 = some l := hRS 3 1 (by decide)
  have hR32 : R 3 2 = some 16 := hRS 3 2 (by decide)
  have hR33 : R 3 3 = some 17 := hRS 3 3 (by decide)
  have h8 := hW.1
  have hg6 := hW.2.1
  have h6 := hW.2.2.1
  have hWD := hI.1
  have hFl := hI.1.1
  show V _ _ _ _ _ _ _ _ [(0, rf G 0), (1, .int x), (2, .int y)] [] _ _ _ _ _
  refine V_aload_n 1 0 rfl _ rfl rfl dX10_fits_0 rfl ?_
  refine V_iload_n 2 1 rfl rfl dX10_fits_1 rfl ?_
  refine V_aload_n 3 0 rfl _ rfl rfl dX10_fits_2 rfl ?_
  refine V_getR 6 0 10 1 3 (hRS 0 1 (by decide)) flX10_19 rfl rfl rfl (by decide) dX10_fits_3 rfl ?_
  refine V_getR 9 3 7 0 c hR3c flX10_85 rfl rfl rfl (by decide) dX10_fits_6 rfl ?_
  refine V_getI 12 c 2 8 (nI (cM K)) hC.2.2.1 flX10_127 rfl (ly_c hc).1 rfl (by omega) dX10_fits_9 rfl ?_
  refine V_callV (K' := 1) (S' := 6) 15 0 10 2 [.int x, .int (nI (cM K))] mkX10_needOneOf lkX10_187 (by decide) rfl rfl (by decide) rfl (Nat.le_of_ble_eq_true rfl) (Nat.le_of_ble_eq_true rfl) (Nat.le_of_ble_eq_true rfl) (Nat.le_of_ble_eq_true rfl) rfl rfl dX10_fits_12 rfl (c_X10_needOneOf (c := cM K) (by omega) (fun i12 => ?_) (fun i12 => by rw [ckN_n (by omega) i12] at hq; exact hq _ rfl))
  refine Kq_v (k' := 1) (sl' := 6) rfl rfl ?_
  rw [ckN_y (by omega) i12] at hq
  obtain ⟨m, hm, rfl⟩ := i12
  refine V_aload_n 16 0 rfl _ rfl rfl dX10_fits_15 rfl ?_
  refine V_iload_n 17 2 rfl rfl dX10_fits_16 rfl ?_
  refine V_iconst 18 (0) rfl dX10_fits_17 rfl ?_
  refine V_iconst 19 (1) rfl dX10_fits_18 rfl ?_
  refine V_callV (K' := 1) (S' := 6) 22 0 10 3 [.int y, .int 0, .int 1] mkX10_needWithin lkX10_158 (by decide) rfl rfl (by decide) rfl (Nat.le_of_ble_eq_true rfl) (Nat.le_of_ble_eq_true rfl) (Nat.le_of_ble_eq_true rfl) (Nat.le_of_ble_eq_true rfl) rfl rfl dX10_fits_19 rfl (c_X10_needWithin (fun a19 b19 => ?_) (fun a19 => by rw [ckW_n a19] at hq; exact hq _ rfl))
  refine Kq_v (k' := 2) (sl' := 12) rfl rfl ?_
  rw [ckW_y a19 b19] at hq
  refine V_aload_n 23 0 rfl _ rfl rfl dX10_fits_22 rfl ?_
  refine V_getR 26 0 10 6 43 (hRS 0 6 (by decide)) flX10_50 rfl rfl rfl (by decide) dX10_fits_23 rfl ?_
  refine V_aload_n 27 0 rfl _ rfl rfl dX10_fits_26 rfl ?_
  refine V_getR 30 0 10 1 3 (hRS 0 1 (by decide)) flX10_19 rfl rfl rfl (by decide) dX10_fits_27 rfl ?_
  refine V_aload_n 31 0 rfl _ rfl rfl dX10_fits_30 rfl ?_
  refine V_getR 34 0 10 2 18 (hRS 0 2 (by decide)) flX10_26 rfl rfl rfl (by decide) dX10_fits_31 rfl ?_
  refine V_aload_n 35 0 rfl _ rfl rfl dX10_fits_34 rfl ?_
  refine V_getR 38 0 10 10 b (hRS 0 10 (by decide)) flX10_78 rfl rfl rfl (by decide) dX10_fits_35 rfl ?_
  refine V_iload_n 39 1 rfl rfl dX10_fits_38 rfl ?_
  refine V_aload_n 40 0 rfl _ rfl rfl dX10_fits_39 rfl ?_
  refine V_getR 43 0 10 10 b (hRS 0 10 (by decide)) flX10_78 rfl rfl rfl (by decide) dX10_fits_40 rfl ?_
  refine V_callV (K' := 0) (S' := 0) 46 b 1 0 [] mkX1_hoursNeeded lkX10_289 (by decide) rfl (ly_b hb).1 (by omega) rfl (Nat.le_of_ble_eq_true rfl) (Nat.le_of_ble_eq_true rfl) (Nat.le_of_ble_eq_true rfl) (Nat.le_of_ble_eq_true rfl) rfl rfl dX10_fits_43 rfl (c_X1_hoursNeeded hRS.K hb hB (fun n hn hnd => ?_))
  refine Kq_i (k' := 2) (sl' := 12) rfl rfl ?_
  rw [nI_clamp (show m < 2 ^ 31 by omega)] at hq
  refine V_callV (K' := 0) (S' := 0) 49 43 0 5 [rf G 3, rf G 18, rf G b, .int (nI m), .int (nI n)] mkX0_findPairs lkX10_292 (by decide) rfl rfl (by decide) rfl (Nat.le_of_ble_eq_true rfl) (Nat.le_of_ble_eq_true rfl) (Nat.le_of_ble_eq_true rfl) (Nat.le_of_ble_eq_true rfl) rfl rfl dX10_fits_46 rfl (c_X0_findPairs ⟨hRS, hc, hl, hb, hC, hW, hD, hI, hL⟩ hB hm hn hnd (fun I1 hF1 e9 e10 hW1 => ?_))
  refine Kq_v (k' := 2) (sl' := 12) rfl rfl ?_
  refine V_iload_n 50 2 rfl rfl dX10_fits_49 rfl ?_
  refine V_if_ne 63 53 rfl dX10_fits_50 rfl (fun c50 => ?_) (fun c50 => ?_)
  · refine V_aload_n 64 0 rfl _ rfl rfl dX10_fits_63 rfl ?_
    refine V_getR 67 0 10 6 43 (hRS 0 6 (by decide)) flX10_50 rfl rfl rfl (by decide) dX10_fits_64 rfl ?_
    refine V_getI 70 43 0 10 (fsT K f D bk m (cH K * cG K)) e10 flX10_299 rfl rfl rfl (by decide) dX10_fits_67 rfl ?_
    refine V_ret_i rfl rfl (Nat.le_of_ble_eq_true rfl) (fun h => absurd h (by decide)) (Nat.le_of_ble_eq_true rfl) (by rw [if_neg c50] at hq; exact hq I1 hF1) dX10_fits_70
  · refine V_aload_n 54 0 rfl _ rfl rfl dX10_fits_53 rfl ?_
    refine V_getR 57 0 10 6 43 (hRS 0 6 (by decide)) flX10_50 rfl rfl rfl (by decide) dX10_fits_54 rfl ?_
    refine V_getI 60 43 0 9 (nI (cnT K f D bk m (cH K * cG K))) e9 flX10_296 rfl rfl rfl (by decide) dX10_fits_57 rfl ?_
    refine V_goto 70 rfl dX10_fits_60 ?_
    refine V_ret_i rfl rfl (Nat.le_of_ble_eq_true rfl) (fun h => absurd h (by decide)) (Nat.le_of_ble_eq_true rfl) (by rw [if_pos c50] at hq; exact hq I1 hF1) dX10_fits_70
set_option maxHeartbeats 8000000 in
theorem c_X10_look {G : Gx} {d : Nat} {I : FI} {R : FR} {J : FJ} {Q : Po} {c l b : Nat} {K : CO} {f : DV → Int32} {D : DV} (hX : RC I R c l b K f D) {x y : Int32} {nb : Nat} {bk : Nat → Option Nat} (hB : BookC I b nb bk) (hq : Ho I R J Q (ckN x (cM K) (ckW y 0 1 (.inl (if y = 0 then (loT K f D bk x.toNatClampNeg 24).1 else (loT K f D bk x.toNatClampNeg 24).2))))) : Cc G mX10_look (d + 60) 8 48 [rf G 0, .int x, .int y] 103 I R J Q := by
  obtain ⟨hRS, hc, hl, hb, hC, hW, hD, hI, hL⟩ := hX
  have hRK := hRS.K
  have hR3c : R 3 0 = some c := hRS 3 0 (by decide)
  have hR3l : R 3 1 = some l := hRS 3 1 (by decide)
  have hR32 : R 3 2 = some 16 := hRS 3 2 (by decide)
  have hR33 : R 3 3 = some 17 := hRS 3 3 (by decide)
  have h8 := hW.1
  have hg6 := hW.2.1
  have h6 := hW.2.2.1
  have hWD := hI.1
  have hFl := hI.1.1
  show V _ _ _ _ _ _ _ _ [(0, rf G 0), (1, .int x), (2, .int y)] [] _ _ _ _ _
  refine V_aload_n 1 0 rfl _ rfl rfl dX10_look_0 rfl ?_
  refine V_iload_n 2 1 rfl rfl dX10_look_1 rfl ?_
  refine V_aload_n 3 0 rfl _ rfl rfl dX10_look_2 rfl ?_
  refine V_getR 6 0 10 1 3 (hRS 0 1 (by decide)) flX10_19 rfl rfl rfl (by decide) dX10_look_3 rfl ?_
  refine V_getR 9 3 7 0 c hR3c flX10_85 rfl rfl rfl (by decide) dX10_look_6 rfl ?_
  refine V_getI 12 c 2 8 (nI (cM K)) hC.2.2.1 flX10_127 rfl (ly_c hc).1 rfl (by omega) dX10_look_9 rfl ?_
  refine V_callV (K' := 1) (S' := 6) 15 0 10 2 [.int x, .int (nI (cM K))] mkX10_needOneOf lkX10_187 (by decide) rfl rfl (by decide) rfl (Nat.le_of_ble_eq_true rfl) (Nat.le_of_ble_eq_true rfl) (Nat.le_of_ble_eq_true rfl) (Nat.le_of_ble_eq_true rfl) rfl rfl dX10_look_12 rfl (c_X10_needOneOf (c := cM K) (by omega) (fun i12 => ?_) (fun i12 => by rw [ckN_n (by omega) i12] at hq; exact hq _ rfl))
  refine Kq_v (k' := 1) (sl' := 6) rfl rfl ?_
  rw [ckN_y (by omega) i12] at hq
  obtain ⟨m, hm, rfl⟩ := i12
  refine V_aload_n 16 0 rfl _ rfl rfl dX10_look_15 rfl ?_
  refine V_iload_n 17 2 rfl rfl dX10_look_16 rfl ?_
  refine V_iconst 18 (0) rfl dX10_look_17 rfl ?_
  refine V_iconst 19 (1) rfl dX10_look_18 rfl ?_
  refine V_callV (K' := 1) (S' := 6) 22 0 10 3 [.int y, .int 0, .int 1] mkX10_needWithin lkX10_158 (by decide) rfl rfl (by decide) rfl (Nat.le_of_ble_eq_true rfl) (Nat.le_of_ble_eq_true rfl) (Nat.le_of_ble_eq_true rfl) (Nat.le_of_ble_eq_true rfl) rfl rfl dX10_look_19 rfl (c_X10_needWithin (fun a19 b19 => ?_) (fun a19 => by rw [ckW_n a19] at hq; exact hq _ rfl))
  refine Kq_v (k' := 2) (sl' := 12) rfl rfl ?_
  rw [ckW_y a19 b19] at hq
  refine V_aload_n 23 0 rfl _ rfl rfl dX10_look_22 rfl ?_
  refine V_getR 26 0 10 6 43 (hRS 0 6 (by decide)) flX10_50 rfl rfl rfl (by decide) dX10_look_23 rfl ?_
  refine V_aload_n 27 0 rfl _ rfl rfl dX10_look_26 rfl ?_
  refine V_getR 30 0 10 1 3 (hRS 0 1 (by decide)) flX10_19 rfl rfl rfl (by decide) dX10_look_27 rfl ?_
  refine V_aload_n 31 0 rfl _ rfl rfl dX10_look_30 rfl ?_
  refine V_getR 34 0 10 2 18 (hRS 0 2 (by decide)) flX10_26 rfl rfl rfl (by decide) dX10_look_31 rfl ?_
  refine V_aload_n 35 0 rfl _ rfl rfl dX10_look_34 rfl ?_
  refine V_getR 38 0 10 10 b (hRS 0 10 (by decide)) flX10_78 rfl rfl rfl (by decide) dX10_look_35 rfl ?_
  refine V_iload_n 39 1 rfl rfl dX10_look_38 rfl ?_
  refine V_bipush 41 (24) rfl dX10_look_39 rfl ?_
  refine V_callV (K' := 0) (S' := 0) 44 43 0 5 [rf G 3, rf G 18, rf G b, .int (nI m), .int 24] mkX0_findPairs lkX10_292 (by decide) rfl rfl (by decide) rfl (Nat.le_of_ble_eq_true rfl) (Nat.le_of_ble_eq_true rfl) (Nat.le_of_ble_eq_true rfl) (Nat.le_of_ble_eq_true rfl) rfl rfl dX10_look_41 rfl (c_X0_findPairs (n := 24) ⟨hRS, hc, hl, hb, hC, hW, hD, hI, hL⟩ hB hm (Nat.le_refl _) (fun k v e => (hB.v e).1) (fun I1 hF1 e9 e10 hW1 => ?_))
  refine Kq_v (k' := 2) (sl' := 12) rfl rfl ?_
  rw [nI_clamp (show m < 2 ^ 31 by omega)] at hq
  refine V_aload_n 45 0 rfl _ rfl rfl dX10_look_44 rfl ?_
  refine V_getR 48 0 10 6 43 (hRS 0 6 (by decide)) flX10_50 rfl rfl rfl (by decide) dX10_look_45 rfl ?_
  refine V_aload_n 49 0 rfl _ rfl rfl dX10_look_48 rfl ?_
  refine V_getR 52 0 10 10 b (hRS 0 10 (by decide)) flX10_78 rfl rfl rfl (by decide) dX10_look_49 rfl ?_
  refine V_callV (K' := 0) (S' := 0) 55 43 0 1 [rf G b] mkX0_chooseHour lkX10_302 (by decide) rfl rfl (by decide) rfl (Nat.le_of_ble_eq_true rfl) (Nat.le_of_ble_eq_true rfl) (Nat.le_of_ble_eq_true rfl) (Nat.le_of_ble_eq_true rfl) rfl rfl dX10_look_52 rfl (c_X0_chooseHour (RC.fr ⟨hRS, hc, hl, hb, hC, hW, hD, hI, hL⟩ hF1) (hB.q hb hF1) e9 hW1 (fun I2 hF2 e6 e8 => ?_))
  refine Kq_v (k' := 2) (sl' := 12) rfl rfl ?_
  refine V_iload_n 56 2 rfl rfl dX10_look_55 rfl ?_
  refine V_if_ne 69 59 rfl dX10_look_56 rfl (fun c56 => ?_) (fun c56 => ?_)
  · refine V_aload_n 70 0 rfl _ rfl rfl dX10_look_69 rfl ?_
    refine V_getR 73 0 10 6 43 (hRS 0 6 (by decide)) flX10_50 rfl rfl rfl (by decide) dX10_look_70 rfl ?_
    refine V_getI 76 43 0 8 ((loT K f D bk m 24).2) e8 flX10_306 rfl rfl rfl (by decide) dX10_look_73 rfl ?_
    refine V_ret_i rfl rfl (Nat.le_of_ble_eq_true rfl) (fun h => absurd h (by decide)) (Nat.le_of_ble_eq_true rfl) (by rw [if_neg c56] at hq; exact hq I2 (hF1.tr hF2)) dX10_look_76
  · refine V_aload_n 60 0 rfl _ rfl rfl dX10_look_59 rfl ?_
    refine V_getR 63 0 10 6 43 (hRS 0 6 (by decide)) flX10_50 rfl rfl rfl (by decide) dX10_look_60 rfl ?_
    refine V_getI 66 43 0 6 ((loT K f D bk m 24).1) e6 flX10_265 rfl rfl rfl (by decide) dX10_look_63 rfl ?_
    refine V_goto 76 rfl dX10_look_66 ?_
    refine V_ret_i rfl rfl (Nat.le_of_ble_eq_true rfl) (fun h => absurd h (by decide)) (Nat.le_of_ble_eq_true rfl) (by rw [if_pos c56] at hq; exact hq I2 (hF1.tr hF2)) dX10_look_76
