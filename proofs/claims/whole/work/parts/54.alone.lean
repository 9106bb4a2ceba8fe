/-! ===== MEN who are ALONE; suits ===== -/
def alX (K : CO) (D : DV) (m h g k : Nat) (u : Int32) : DV := f8 (cHat K (2 * h) + D (36 + h)) (angF (cHat K (2 * h + 1)) (cGr K (2 * g + 1))) (nI k) (cBt K m) u (D (44 + g)) 0 (D 50 + nI k)
def alH (K : CO) (f : DV → Int32) (D : DV) (m h g : Nat) : Nat → Int32
  | 0 => D (18 + m)
  | k + 1 => alH K f D m h g k + f (alX K D m h g k (alH K f D m h g k))
def alS (K : CO) (f : DV → Int32) (D : DV) (m h g k : Nat) : Int32 := f (alX K D m h g k (alH K f D m h g k))
def alT (K : CO) (f : DV → Int32) (D : DV) (m h g : Nat) : Nat → Int32
  | 0 => 0
  | k + 1 => alT K f D m h g k + alS K f D m h g k
theorem alS_R {K : CO} {f : DV → Int32} (hf : fR f) (D : DV) (m h g k : Nat) : ∃ q, q ≤ 99 ∧ alS K f D m h g k = nI q := hf _
theorem alo_0 {K : CO} {D : DV} {m h g : Nat} : ∀ j, j < 8 → aloV K D m h g j = alX K D m h g 0 (D (18 + m)) j := by
  intro j hj
  rcases (show j = 0 ∨ j = 1 ∨ j = 2 ∨ j = 3 ∨ j = 4 ∨ j = 5 ∨ j = 6 ∨ j = 7 by omega) with rfl | rfl | rfl | rfl | rfl | rfl | rfl | rfl
  all_goals try rfl
  show D 50 = D 50 + nI 0
  exact (Int32.add_zero _).symm
theorem alX_s {K : CO} {D : DV} {m h g k : Nat} {u x : Int32} {F : DV} (hF : F = alX K D m h g k u) : ∀ j, j < 8 → upd (upd (upd F 2 (F 2 + 1)) 7 (F 7 + 1)) 4 (F 4 + x) j = alX K D m h g (k + 1) (u + x) j := by
  subst hF
  intro j hj
  rcases (show j = 0 ∨ j = 1 ∨ j = 2 ∨ j = 3 ∨ j = 4 ∨ j = 5 ∨ j = 6 ∨ j = 7 by omega) with rfl | rfl | rfl | rfl | rfl | rfl | rfl | rfl
  · rw [upd_n (by decide), upd_n (by decide), upd_n (by decide)]; rfl
  · rw [upd_n (by decide), upd_n (by decide), upd_n (by decide)]; rfl
  · rw [upd_n (by decide), upd_n (by decide), upd_s]; exact nI_1 k
  · rw [upd_n (by decide), upd_n (by decide), upd_n (by decide)]; rfl
  · rw [upd_s]; rfl
  · rw [upd_n (by decide), upd_n (by decide), upd_n (by decide)]; rfl
  · rw [upd_n (by decide), upd_n (by decide), upd_n (by decide)]; rfl
  · rw [upd_n (by decide), upd_s]
    show D 50 + nI k + 1 = D 50 + nI (k + 1)
    rw [Int32.add_assoc, nI_1]
theorem c_X7_nx {G : Gx} {d : Nat} {I : FI} {R : FR} {J : FJ} {Q : Po} {c l b : Nat} {K : CO} {f : DV → Int32} {D : DV} (hX : RC I R c l b K f D) {m h g k : Nat} {u : Int32} (hF : ∀ j, j < 8 → I 16 j = alX K D m h g k u j) (hq : ∀ I', (∀ a, a ≠ 16 → a ≠ l + 4 → I' a = I a) → (∀ j, j < 8 → I' 16 j = alX K D m h g (k + 1) (u + f (alX K D m h g k u)) j) → Q (.inl (some (.int (f (alX K D m h g k u))))) 103 I' R J) : Cc G mX7_nextSea (d + 2) 0 0 [rf G 3] 103 I R J Q := by
  obtain ⟨hRS, hc, hl, hb, hC, hW, hD, hI, hL⟩ := hX
  exact c_X7_nextSea hRS.K (hRS 3 1 (by decide)) (hRS 3 2 (by decide)) hl hL hF (fun I' h1 h2 => hq I' h1 (fun j hj => (h2 j hj).trans (alX_s rfl j hj)))
theorem c_X7_sa {G : Gx} {d : Nat} {I : FI} {R : FR} {J : FJ} {Q : Po} {c l b : Nat} {K : CO} {f : DV → Int32} {D : DV} (hX : RC I R c l b K f D) {m h g : Nat} (hm : m < cM K) (hh : h < cH K) (hg : g < cG K) (hq : ∀ I', (∀ a, a ≠ 16 → I' a = I a) → (∀ j, j < 8 → I' 16 j = alX K D m h g 0 (alH K f D m h g 0) j) → Q (.inl none) 103 I' R J) : Cc G mX7_standAlone (d + 1) 0 0 [rf G 3, rf G 18, .int (nI m), .int (nI h), .int (nI g)] 103 I R J Q := by
  obtain ⟨hRS, hc, hl, hb, hC, hW, hD, hI, hL⟩ := hX
  exact c_X7_standAlone hRS.K (hRS 3 0 (by decide)) (hRS 3 1 (by decide)) (hRS 3 2 (by decide)) (hRS 3 3 (by decide)) hc (Or.inl rfl) hC hW hD hm hh hg (fun I' h1 h2 => hq I' h1 (fun j hj => (h2 j hj).trans (alo_0 j hj)))
def suF (K : CO) (f : DV → Int32) (D : DV) (m g n : Nat) : Nat → Int32 × Int32
  | 0 => (-1, -1)
  | h + 1 => if wearF D (nI h) 6 0 = -1 ∨ wearF D (nI h) 6 0 = nI m then (if (suF K f D m g n h).1 = -1 ∨ alT K f D m h g n < (suF K f D m g n h).2 then (nI h, alT K f D m h g n) else suF K f D m g n h) else suF K f D m g n h
theorem FrQ.a {I I1 I2 : FI} {l : Nat} (h : FrQ I I1) (hl : l = 11 ∨ l = 58) (h2 : ∀ a, a ≠ 16 → a ≠ l + 4 → I2 a = I1 a) : FrQ I I2 := h.tr (FrQ.s h2 hl)
set_option maxHeartbeats 8000000 in
theorem c_X0_chooseHat {G : Gx} {d : Nat} {I : FI} {R : FR} {J : FJ} {Q : Po} {c l b : Nat} {K : CO} {f : DV → Int32} {D : DV} (hX : RC I R c l b K f D) {m g n : Nat} (hm : m < cM K) (hg : g < cG K) (hn : n ≤ 24) (hq : ∀ I', FrQ I I' → I' 43 6 = (suF K f D m g n (cH K)).1 → I' 43 7 = (suF K f D m g n (cH K)).2 → Q (.inl none) 103 I' R J) : Cc G mX0_chooseHat (d + 10) 0 0 [rf G 43, rf G 3, rf G 18, .int (nI m), .int (nI g), .int (nI n)] 103 I R J Q := by
  have hXc := hX
  obtain ⟨hRS, hc, hl, hb, hC, hW, hD, hI, hL⟩ := hXc
  have hRK := hRS.K
  have hR3c : R 3 0 = some c := hRS 3 0 (by decide)
  have hR3l : R 3 1 = some l := hRS 3 1 (by decide)
  have hR32 : R 3 2 = some 16 := hRS 3 2 (by decide)
  have hR33 : R 3 3 = some 17 := hRS 3 3 (by decide)
  have h8 := hW.1
  have hg6 := hW.2.1
  have h6 := hW.2.2.1
  have hWD := hI.1
  have hFl := hI.1.1
  have L : ∀ i, i ≤ cH K → ∀ I1, FrQ I I1 → I1 43 6 = (suF K f D m g n i).1 → I1 43 7 = (suF K f D m g n i).2 → V G mX0_chooseHat (d + 10) 0 0 0 0 13 [(6, .int (nI i)), (0, rf G 43), (1, rf G 3), (2, rf G 18), (3, .int (nI m)), (4, .int (nI g)), (5, .int (nI n))] [] 103 I1 R J Q := by
    refine loopd (cH K) (fun I1 hF1 h61 h71 => ?_) (fun i hi ih I1 hF1 h61 h71 => ?_)
    · have hX1 := hX.fr hF1
      refine V_iload 15 0 rfl dX0_chooseHat_13 rfl ?_
      refine V_aload_n 16 2 rfl _ rfl rfl dX0_chooseHat_15 rfl ?_
      refine V_getR 19 3 7 0 c hR3c flX0_37 rfl rfl rfl (by decide) dX0_chooseHat_16 rfl ?_
      refine V_getI 22 c 2 6 (nI (cH K)) hX1.2.2.2.2.1.1 flX0_43 rfl (ly_c hc).1 rfl (by omega) dX0_chooseHat_19 rfl ?_
      refine V_icmp_ge 121 25 rfl dX0_chooseHat_22 rfl (fun c22 => ?_) (fun c22 => absurd (Int32.le_refl _) c22)
      refine V_ret_v rfl (Nat.le_of_ble_eq_true rfl) (fun h => absurd h (by decide)) (Nat.le_of_ble_eq_true rfl) (hq I1 hF1 h61 h71) dX0_chooseHat_121
    · have hX1 := hX.fr hF1
      have H48 : (wearF D (nI i) 6 0 = -1 ∨ wearF D (nI i) 6 0 = nI m) → V G mX0_chooseHat (d + 10) 0 0 0 0 48 [(6, .int (nI i)), (0, rf G 43), (1, rf G 3), (2, rf G 18), (3, .int (nI m)), (4, .int (nI g)), (5, .int (nI n))] [] 103 I1 R J Q := by
        intro hw
        have LL : ∀ k, k ≤ n → ∀ I3, (∀ a, a ≠ 16 → a ≠ l + 4 → I3 a = I1 a) → (∀ j, j < 8 → I3 16 j = alX K D m i g k (alH K f D m i g k) j) → V G mX0_chooseHat (d + 10) 0 0 0 0 64 [(9, .int (nI k)), (8, .int (alT K f D m i g k)), (6, .int (nI i)), (0, rf G 43), (1, rf G 3), (2, rf G 18), (3, .int (nI m)), (4, .int (nI g)), (5, .int (nI n))] [] 103 I3 R J Q := by
          refine loopd n (fun I3 hF3 hA3 => ?_) (fun k hk ih2 I3 hF3 hA3 => ?_)
          · refine V_iload 66 0 rfl dX0_chooseHat_64 rfl ?_
            refine V_iload 68 8 rfl dX0_chooseHat_66 rfl ?_
            refine V_icmp_ge 86 71 rfl dX0_chooseHat_68 rfl (fun c68 => ?_) (fun c68 => absurd (Int32.le_refl _) c68)
            refine V_aload_n 87 3 rfl _ rfl rfl dX0_chooseHat_86 rfl ?_
            refine V_getI 90 43 0 6 ((suF K f D m g n i).1) (by rw [hF3 43 (by decide) (by omega)]; exact h61) flX0_30 rfl rfl rfl (by decide) dX0_chooseHat_87 rfl ?_
            refine V_iconst 91 (-1) rfl dX0_chooseHat_90 rfl ?_
            refine V_icmp_eq 103 94 rfl dX0_chooseHat_91 rfl (fun c91 => ?_) (fun c91 => ?_)
            · refine V_aload_n 104 3 rfl _ rfl rfl dX0_chooseHat_103 rfl ?_
              refine V_iload 106 2 rfl dX0_chooseHat_104 rfl ?_
              refine V_putI 109 43 0 6 flX0_30 rfl rfl rfl (by decide) rfl dX0_chooseHat_106 rfl ?_
              refine V_aload_n 110 3 rfl _ rfl rfl dX0_chooseHat_109 rfl ?_
              refine V_iload 112 1 rfl dX0_chooseHat_110 rfl ?_
              refine V_putI 115 43 0 7 flX0_34 rfl rfl rfl (by decide) rfl dX0_chooseHat_112 rfl ?_
              refine V_iinc 118 2 rfl (nI (i + 1)) [(6, .int (nI (i + 1))), (9, .int (nI n)), (8, .int (alT K f D m i g n)), (0, rf G 43), (1, rf G 3), (2, rf G 18), (3, .int (nI m)), (4, .int (nI g)), (5, .int (nI n))] (nI_1 _) (by decide) rfl dX0_chooseHat_115 rfl ?_
              refine V_goto 13 rfl dX0_chooseHat_118 ?_
              have eS : suF K f D m g n (i + 1) = (nI i, alT K f D m i g n) := by
                rw [suF, if_pos hw, if_pos (by first | exact Or.inl c91 | exact Or.inr (Int32.not_le.mp c100))]
              rw [eS] at ih
              exact V_lv [0, 3, 4, 5, 6, 7, 8] rfl (ih _ (((hF1.a hl hF3).u (by decide)).u (by decide)) (by rw [up2_s, upd_n (by decide), up2_s]; exact upd_s) (by rw [up2_s]; exact upd_s))
            · refine V_iload 96 1 rfl dX0_chooseHat_94 rfl ?_
              refine V_aload_n 97 3 rfl _ rfl rfl dX0_chooseHat_96 rfl ?_
              refine V_getI 100 43 0 7 ((suF K f D m g n i).2) (by rw [hF3 43 (by decide) (by omega)]; exact h71) flX0_34 rfl rfl rfl (by decide) dX0_chooseHat_97 rfl ?_
              refine V_icmp_ge 115 103 rfl dX0_chooseHat_100 rfl (fun c100 => ?_) (fun c100 => ?_)
              · refine V_iinc 118 2 rfl (nI (i + 1)) [(6, .int (nI (i + 1))), (9, .int (nI n)), (8, .int (alT K f D m i g n)), (0, rf G 43), (1, rf G 3), (2, rf G 18), (3, .int (nI m)), (4, .int (nI g)), (5, .int (nI n))] (nI_1 _) (by decide) rfl dX0_chooseHat_115 rfl ?_
                refine V_goto 13 rfl dX0_chooseHat_118 ?_
                have eS : suF K f D m g n (i + 1) = suF K f D m g n i := by
                  rw [suF, if_pos hw, if_neg (fun q => q.elim c91 (fun q => absurd c100 (fun r => Int32.not_lt.mpr r q)))]
                rw [eS] at ih
                exact V_lv [0, 3, 4, 5, 6, 7, 8] rfl (ih I3 (hF1.a hl hF3) (by rw [hF3 43 (by decide) (by omega)]; exact h61) (by rw [hF3 43 (by decide) (by omega)]; exact h71))
              · refine V_aload_n 104 3 rfl _ rfl rfl dX0_chooseHat_103 rfl ?_
                refine V_iload 106 2 rfl dX0_chooseHat_104 rfl ?_
                refine V_putI 109 43 0 6 flX0_30 rfl rfl rfl (by decide) rfl dX0_chooseHat_106 rfl ?_
                refine V_aload_n 110 3 rfl _ rfl rfl dX0_chooseHat_109 rfl ?_
                refine V_iload 112 1 rfl dX0_chooseHat_110 rfl ?_
                refine V_putI 115 43 0 7 flX0_34 rfl rfl rfl (by decide) rfl dX0_chooseHat_112 rfl ?_
                refine V_iinc 118 2 rfl (nI (i + 1)) [(6, .int (nI (i + 1))), (9, .int (nI n)), (8, .int (alT K f D m i g n)), (0, rf G 43), (1, rf G 3), (2, rf G 18), (3, .int (nI m)), (4, .int (nI g)), (5, .int (nI n))] (nI_1 _) (by decide) rfl dX0_chooseHat_115 rfl ?_
                refine V_goto 13 rfl dX0_chooseHat_118 ?_
                have eS : suF K f D m g n (i + 1) = (nI i, alT K f D m i g n) := by
                  rw [suF, if_pos hw, if_pos (by first | exact Or.inl c91 | exact Or.inr (Int32.not_le.mp c100))]
                rw [eS] at ih
                exact V_lv [0, 3, 4, 5, 6, 7, 8] rfl (ih _ (((hF1.a hl hF3).u (by decide)).u (by decide)) (by rw [up2_s, upd_n (by decide), up2_s]; exact upd_s) (by rw [up2_s]; exact upd_s))
          · refine V_iload 66 0 rfl dX0_chooseHat_64 rfl ?_
            refine V_iload 68 8 rfl dX0_chooseHat_66 rfl ?_
            refine V_icmp_ge 86 71 rfl dX0_chooseHat_68 rfl (fun c68 => absurd c68 (nI_ge hk (by omega))) (fun c68 => ?_)
            refine V_iload 73 1 rfl dX0_chooseHat_71 rfl ?_
            refine V_aload_n 74 4 rfl _ rfl rfl dX0_chooseHat_73 rfl ?_
            refine V_callV (K' := 0) (S' := 0) 77 3 7 0 [] mkX7_nextSea lkX0_58 (by decide) rfl rfl (by decide) rfl (Nat.le_of_ble_eq_true rfl) (Nat.le_of_ble_eq_true rfl) (Nat.le_of_ble_eq_true rfl) (Nat.le_of_ble_eq_true rfl) rfl rfl dX0_chooseHat_74 rfl (c_X7_nx (hX.fr (hF1.a hl hF3)) hA3 (fun I4 hF4 hA4 => ?_))
            refine Kq_i (k' := 0) (sl' := 0) rfl rfl ?_
            refine V_iadd 78 dX0_chooseHat_77 rfl ?_
            refine V_rw (show _ = alT K f D m i g (k + 1) from rfl) ?_
            refine V_istore 80 [(8, .int (alT K f D m i g (k + 1))), (9, .int (nI k)), (6, .int (nI i)), (0, rf G 43), (1, rf G 3), (2, rf G 18), (3, .int (nI m)), (4, .int (nI g)), (5, .int (nI n))] (by decide) rfl dX0_chooseHat_78 rfl ?_
            refine V_iinc 83 1 rfl (nI (k + 1)) [(9, .int (nI (k + 1))), (8, .int (alT K f D m i g (k + 1))), (6, .int (nI i)), (0, rf G 43), (1, rf G 3), (2, rf G 18), (3, .int (nI m)), (4, .int (nI g)), (5, .int (nI n))] (nI_1 _) (by decide) rfl dX0_chooseHat_80 rfl ?_
            refine V_goto 64 rfl dX0_chooseHat_83 ?_
            exact V_lv [0, 1, 2, 3, 4, 5, 6, 7, 8] rfl (ih2 I4 (fun a q1 q2 => (hF4 a q1 q2).trans (hF3 a q1 q2)) hA4)
        refine V_aload_n 49 2 rfl _ rfl rfl dX0_chooseHat_48 rfl ?_
        refine V_aload_n 50 3 rfl _ rfl rfl dX0_chooseHat_49 rfl ?_
        refine V_iload_n 51 4 rfl rfl dX0_chooseHat_50 rfl ?_
        refine V_iload 53 0 rfl dX0_chooseHat_51 rfl ?_
        refine V_iload 55 5 rfl dX0_chooseHat_53 rfl ?_
        refine V_callV (K' := 0) (S' := 0) 58 3 7 4 [rf G 18, .int (nI m), .int (nI i), .int (nI g)] mkX7_standAlone lkX0_54 (by decide) rfl rfl (by decide) rfl (Nat.le_of_ble_eq_true rfl) (Nat.le_of_ble_eq_true rfl) (Nat.le_of_ble_eq_true rfl) (Nat.le_of_ble_eq_true rfl) rfl rfl dX0_chooseHat_55 rfl (c_X7_sa hX1 hm hi hg (fun I2 hF2 hA2 => ?_))
        refine Kq_v (k' := 0) (sl' := 0) rfl rfl ?_
        refine V_iconst 59 (0) rfl dX0_chooseHat_58 rfl ?_
        refine V_istore 61 [(8, .int 0), (6, .int (nI i)), (0, rf G 43), (1, rf G 3), (2, rf G 18), (3, .int (nI m)), (4, .int (nI g)), (5, .int (nI n))] (by decide) rfl dX0_chooseHat_59 rfl ?_
        refine V_iconst 62 (0) rfl dX0_chooseHat_61 rfl ?_
        refine V_istore 64 [(9, .int 0), (8, .int 0), (6, .int (nI i)), (0, rf G 43), (1, rf G 3), (2, rf G 18), (3, .int (nI m)), (4, .int (nI g)), (5, .int (nI n))] (by decide) rfl dX0_chooseHat_62 rfl ?_
        exact V_lv [0, 1, 2, 3, 4, 5, 6, 7, 8] rfl (LL 0 (Nat.zero_le _) I2 (fun a q1 _ => hF2 a q1) hA2)
      refine V_iload 15 0 rfl dX0_chooseHat_13 rfl ?_
      refine V_aload_n 16 2 rfl _ rfl rfl dX0_chooseHat_15 rfl ?_
      refine V_getR 19 3 7 0 c hR3c flX0_37 rfl rfl rfl (by decide) dX0_chooseHat_16 rfl ?_
      refine V_getI 22 c 2 6 (nI (cH K)) hX1.2.2.2.2.1.1 flX0_43 rfl (ly_c hc).1 rfl (by omega) dX0_chooseHat_19 rfl ?_
      refine V_icmp_ge 121 25 rfl dX0_chooseHat_22 rfl (fun c22 => absurd c22 (nI_ge hi (by omega))) (fun c22 => ?_)
      refine V_aload_n 26 3 rfl _ rfl rfl dX0_chooseHat_25 rfl ?_
      refine V_iload 28 0 rfl dX0_chooseHat_26 rfl ?_
      refine V_callV (K' := 0) (S' := 0) 31 18 3 1 [.int (nI i)] mkX3_wearerOf lkX0_48 (by decide) rfl rfl (by decide) rfl (Nat.le_of_ble_eq_true rfl) (Nat.le_of_ble_eq_true rfl) (Nat.le_of_ble_eq_true rfl) (Nat.le_of_ble_eq_true rfl) rfl rfl dX0_chooseHat_28 rfl (c_X3_wearerOf_18 hRK hX1.2.2.2.2.2.2.1 ?_)
      refine Kq_i (k' := 0) (sl' := 0) rfl rfl ?_
      refine V_istore 33 [(7, .int (wearF D (nI i) 6 0)), (6, .int (nI i)), (0, rf G 43), (1, rf G 3), (2, rf G 18), (3, .int (nI m)), (4, .int (nI g)), (5, .int (nI n))] (by decide) rfl dX0_chooseHat_31 rfl ?_
      refine V_iload 35 0 rfl dX0_chooseHat_33 rfl ?_
      refine V_iconst 36 (-1) rfl dX0_chooseHat_35 rfl ?_
      refine V_icmp_eq 48 39 rfl dX0_chooseHat_36 rfl (fun c36 => ?_) (fun c36 => ?_)
      · exact V_lv [1, 2, 3, 4, 5, 6, 7] rfl (H48 (by first | exact Or.inl c36 | exact Or.inr c42))
      · refine V_iload 41 0 rfl dX0_chooseHat_39 rfl ?_
        refine V_iload_n 42 5 rfl rfl dX0_chooseHat_41 rfl ?_
        refine V_icmp_eq 48 45 rfl dX0_chooseHat_42 rfl (fun c42 => ?_) (fun c42 => ?_)
        · exact V_lv [1, 2, 3, 4, 5, 6, 7] rfl (H48 (by first | exact Or.inl c36 | exact Or.inr c42))
        · refine V_goto 115 rfl dX0_chooseHat_45 ?_
          refine V_iinc 118 1 rfl (nI (i + 1)) [(6, .int (nI (i + 1))), (7, .int (wearF D (nI i) 6 0)), (0, rf G 43), (1, rf G 3), (2, rf G 18), (3, .int (nI m)), (4, .int (nI g)), (5, .int (nI n))] (nI_1 _) (by decide) rfl dX0_chooseHat_115 rfl ?_
          refine V_goto 13 rfl dX0_chooseHat_118 ?_
          have eS : suF K f D m g n (i + 1) = suF K f D m g n i := by
            rw [suF, if_neg (fun q => q.elim c36 c42)]
          rw [eS] at ih
          exact V_lv [0, 2, 3, 4, 5, 6, 7] rfl (ih I1 hF1 h61 h71)
  show V _ _ _ _ _ _ _ _ [(0, rf G 43), (1, rf G 3), (2, rf G 18), (3, .int (nI m)), (4, .int (nI g)), (5, .int (nI n))] [] _ _ _ _ _
  refine V_aload_n 1 0 rfl _ rfl rfl dX0_chooseHat_0 rfl ?_
  refine V_iconst 2 (-1) rfl dX0_chooseHat_1 rfl ?_
  refine V_putI 5 43 0 6 flX0_30 rfl rfl rfl (by decide) rfl dX0_chooseHat_2 rfl ?_
  refine V_aload_n 6 0 rfl _ rfl rfl dX0_chooseHat_5 rfl ?_
  refine V_iconst 7 (-1) rfl dX0_chooseHat_6 rfl ?_
  refine V_putI 10 43 0 7 flX0_34 rfl rfl rfl (by decide) rfl dX0_chooseHat_7 rfl ?_
  refine V_iconst 11 (0) rfl dX0_chooseHat_10 rfl ?_
  refine V_istore 13 [(6, .int 0), (0, rf G 43), (1, rf G 3), (2, rf G 18), (3, .int (nI m)), (4, .int (nI g)), (5, .int (nI n))] (by decide) rfl dX0_chooseHat_11 rfl ?_
  exact V_lv [0, 1, 2, 3, 4, 5, 6] rfl (L 0 (Nat.zero_le _) _ ((FrQ.rf.u (by decide)).u (by decide)) (by rw [up2_s, upd_n (by decide), up2_s]; exact upd_s) (by rw [up2_s]; exact upd_s))
set_option maxHeartbeats 8000000 in
theorem c_X10_suits {G : Gx} {d : Nat} {I : FI} {R : FR} {J : FJ} {Q : Po} {c l b : Nat} {K : CO} {f : DV → Int32} {D : DV} (hX : RC I R c l b K f D) {x y z w : Int32}  (hq : Ho I R J Q (ckN x (cM K) (ckN y (cG K) (ckW z 0 24 (ckW w 0 1 (.inl (if w = 0 then (suF K f D x.toNatClampNeg y.toNatClampNeg z.toNatClampNeg (cH K)).1 else (suF K f D x.toNatClampNeg y.toNatClampNeg z.toNatClampNeg (cH K)).2))))))) : Cc G mX10_suits (d + 60) 8 48 [rf G 0, .int x, .int y, .int z, .int w] 103 I R J Q := by
  obtain ⟨hRS, hc, hl, hb, hC, hW, hD, hI, hL⟩ := hX
  have hRK := hRS.K
  have hR3c : R 3 0 = some c := hRS 3 0 (by decide)
  have hR3l : R 3 1 = some l := hRS 3 1 (by decide)
  have hR32 : R 3 2 = some 16 := hRS 3 2 (by decide)
  have hR33 : R 3 3 = some 17 := hRS 3 3 (by decide)
  have h8 := hW.1
  have hg6 := hW.2.1
  have h6 := hW.2.2.1
  have hWD := hI.1
  have hFl := hI.1.1
  show V _ _ _ _ _ _ _ _ [(0, rf G 0), (1, .int x), (2, .int y), (3, .int z), (4, .int w)] [] _ _ _ _ _
  refine V_aload_n 1 0 rfl _ rfl rfl dX10_suits_0 rfl ?_
  refine V_iload_n 2 1 rfl rfl dX10_suits_1 rfl ?_
  refine V_aload_n 3 0 rfl _ rfl rfl dX10_suits_2 rfl ?_
  refine V_getR 6 0 10 1 3 (hRS 0 1 (by decide)) flX10_19 rfl rfl rfl (by decide) dX10_suits_3 rfl ?_
  refine V_getR 9 3 7 0 c hR3c flX10_85 rfl rfl rfl (by decide) dX10_suits_6 rfl ?_
  refine V_getI 12 c 2 8 (nI (cM K)) hC.2.2.1 flX10_127 rfl (ly_c hc).1 rfl (by omega) dX10_suits_9 rfl ?_
  refine V_callV (K' := 1) (S' := 6) 15 0 10 2 [.int x, .int (nI (cM K))] mkX10_needOneOf lkX10_187 (by decide) rfl rfl (by decide) rfl (Nat.le_of_ble_eq_true rfl) (Nat.le_of_ble_eq_true rfl) (Nat.le_of_ble_eq_true rfl) (Nat.le_of_ble_eq_true rfl) rfl rfl dX10_suits_12 rfl (c_X10_needOneOf (c := cM K) (by omega) (fun i12 => ?_) (fun i12 => by rw [ckN_n (by omega) i12] at hq; exact hq _ rfl))
  refine Kq_v (k' := 1) (sl' := 6) rfl rfl ?_
  rw [ckN_y (by omega) i12] at hq
  obtain ⟨m, hm, rfl⟩ := i12
  refine V_aload_n 16 0 rfl _ rfl rfl dX10_suits_15 rfl ?_
  refine V_iload_n 17 2 rfl rfl dX10_suits_16 rfl ?_
  refine V_aload_n 18 0 rfl _ rfl rfl dX10_suits_17 rfl ?_
  refine V_getR 21 0 10 1 3 (hRS 0 1 (by decide)) flX10_19 rfl rfl rfl (by decide) dX10_suits_18 rfl ?_
  refine V_getR 24 3 7 0 c hR3c flX10_85 rfl rfl rfl (by decide) dX10_suits_21 rfl ?_
  refine V_getI 27 c 2 7 (nI (cG K)) hC.2.1 flX10_165 rfl (ly_c hc).1 rfl (by omega) dX10_suits_24 rfl ?_
  refine V_callV (K' := 1) (S' := 6) 30 0 10 2 [.int y, .int (nI (cG K))] mkX10_needOneOf lkX10_187 (by decide) rfl rfl (by decide) rfl (Nat.le_of_ble_eq_true rfl) (Nat.le_of_ble_eq_true rfl) (Nat.le_of_ble_eq_true rfl) (Nat.le_of_ble_eq_true rfl) rfl rfl dX10_suits_27 rfl (c_X10_needOneOf (c := cG K) (by omega) (fun i27 => ?_) (fun i27 => by rw [ckN_n (by omega) i27] at hq; exact hq _ rfl))
  refine Kq_v (k' := 2) (sl' := 12) rfl rfl ?_
  rw [ckN_y (by omega) i27] at hq
  obtain ⟨g, hg, rfl⟩ := i27
  refine V_aload_n 31 0 rfl _ rfl rfl dX10_suits_30 rfl ?_
  refine V_iload_n 32 3 rfl rfl dX10_suits_31 rfl ?_
  refine V_iconst 33 (0) rfl dX10_suits_32 rfl ?_
  refine V_bipush 35 (24) rfl dX10_suits_33 rfl ?_
  refine V_callV (K' := 1) (S' := 6) 38 0 10 3 [.int z, .int 0, .int 24] mkX10_needWithin lkX10_158 (by decide) rfl rfl (by decide) rfl (Nat.le_of_ble_eq_true rfl) (Nat.le_of_ble_eq_true rfl) (Nat.le_of_ble_eq_true rfl) (Nat.le_of_ble_eq_true rfl) rfl rfl dX10_suits_35 rfl (c_X10_needWithin (fun a35 b35 => ?_) (fun a35 => by rw [ckW_n a35] at hq; exact hq _ rfl))
  refine Kq_v (k' := 3) (sl' := 18) rfl rfl ?_
  rw [ckW_y a35 b35] at hq
  obtain ⟨n, hn, rfl⟩ := in_nI (n := 24) (by decide) a35 b35
  refine V_aload_n 39 0 rfl _ rfl rfl dX10_suits_38 rfl ?_
  refine V_iload 41 4 rfl dX10_suits_39 rfl ?_
  refine V_iconst 42 (0) rfl dX10_suits_41 rfl ?_
  refine V_iconst 43 (1) rfl dX10_suits_42 rfl ?_
  refine V_callV (K' := 1) (S' := 6) 46 0 10 3 [.int w, .int 0, .int 1] mkX10_needWithin lkX10_158 (by decide) rfl rfl (by decide) rfl (Nat.le_of_ble_eq_true rfl) (Nat.le_of_ble_eq_true rfl) (Nat.le_of_ble_eq_true rfl) (Nat.le_of_ble_eq_true rfl) rfl rfl dX10_suits_43 rfl (c_X10_needWithin (fun a43 b43 => ?_) (fun a43 => by rw [ckW_n a43] at hq; exact hq _ rfl))
  refine Kq_v (k' := 4) (sl' := 24) rfl rfl ?_
  rw [ckW_y a43 b43] at hq
  refine V_aload_n 47 0 rfl _ rfl rfl dX10_suits_46 rfl ?_
  refine V_getR 50 0 10 6 43 (hRS 0 6 (by decide)) flX10_50 rfl rfl rfl (by decide) dX10_suits_47 rfl ?_
  refine V_aload_n 51 0 rfl _ rfl rfl dX10_suits_50 rfl ?_
  refine V_getR 54 0 10 1 3 (hRS 0 1 (by decide)) flX10_19 rfl rfl rfl (by decide) dX10_suits_51 rfl ?_
  refine V_aload_n 55 0 rfl _ rfl rfl dX10_suits_54 rfl ?_
  refine V_getR 58 0 10 2 18 (hRS 0 2 (by decide)) flX10_26 rfl rfl rfl (by decide) dX10_suits_55 rfl ?_
  refine V_iload_n 59 1 rfl rfl dX10_suits_58 rfl ?_
  refine V_iload_n 60 2 rfl rfl dX10_suits_59 rfl ?_
  refine V_iload_n 61 3 rfl rfl dX10_suits_60 rfl ?_
  refine V_callV (K' := 0) (S' := 0) 64 43 0 5 [rf G 3, rf G 18, .int (nI m), .int (nI g), .int (nI n)] mkX0_chooseHat lkX10_261 (by decide) rfl rfl (by decide) rfl (Nat.le_of_ble_eq_true rfl) (Nat.le_of_ble_eq_true rfl) (Nat.le_of_ble_eq_true rfl) (Nat.le_of_ble_eq_true rfl) rfl rfl dX10_suits_61 rfl (c_X0_chooseHat ⟨hRS, hc, hl, hb, hC, hW, hD, hI, hL⟩ hm hg hn (fun I1 hF1 e6 e7 => ?_))
  refine Kq_v (k' := 4) (sl' := 24) rfl rfl ?_
  rw [nI_clamp (show m < 2 ^ 31 by omega), nI_clamp (show g < 2 ^ 31 by omega), nI_clamp (show n < 2 ^ 31 by omega)] at hq
  refine V_iload 66 4 rfl dX10_suits_64 rfl ?_
  refine V_if_ne 79 69 rfl dX10_suits_66 rfl (fun c66 => ?_) (fun c66 => ?_)
  · refine V_aload_n 80 0 rfl _ rfl rfl dX10_suits_79 rfl ?_
    refine V_getR 83 0 10 6 43 (hRS 0 6 (by decide)) flX10_50 rfl rfl rfl (by decide) dX10_suits_80 rfl ?_
    refine V_getI 86 43 0 7 ((suF K f D m g n (cH K)).2) e7 flX10_268 rfl rfl rfl (by decide) dX10_suits_83 rfl ?_
    refine V_ret_i rfl rfl (Nat.le_of_ble_eq_true rfl) (fun h => absurd h (by decide)) (Nat.le_of_ble_eq_true rfl) (by rw [if_neg c66] at hq; exact hq I1 hF1) dX10_suits_86
  · refine V_aload_n 70 0 rfl _ rfl rfl dX10_suits_69 rfl ?_
    refine V_getR 73 0 10 6 43 (hRS 0 6 (by decide)) flX10_50 rfl rfl rfl (by decide) dX10_suits_70 rfl ?_
    refine V_getI 76 43 0 6 ((suF K f D m g n (cH K)).1) e6 flX10_265 rfl rfl rfl (by decide) dX10_suits_73 rfl ?_
    refine V_goto 86 rfl dX10_suits_76 ?_
    refine V_ret_i rfl rfl (Nat.le_of_ble_eq_true rfl) (fun h => absurd h (by decide)) (Nat.le_of_ble_eq_true rfl) (by rw [if_pos c66] at hq; exact hq I1 hF1) dX10_suits_86
def Fr4 (I I' : FI) : Prop := ∀ a, a ≠ 84 → a ≠ 85 → a ≠ 94 → I' a = I a
theorem Fr4.K {I I' : FI} {K : CO} (h : Fr4 I I') (hK : CoastM I K) : CoastM I' K := hK.fr (by rw [h 69 (by decide) (by decide) (by decide)]) (by rw [h 69 (by decide) (by decide) (by decide)]) (by rw [h 69 (by decide) (by decide) (by decide)]) (fun a q1 q2 => h a (by omega) (by omega) (by omega))
theorem Fr4.L {I I' : FI} {f : DV → Int32} (h : Fr4 I I') (hL : LawM I f) : LawM I' f := hL.fr (by rw [h 69 (by decide) (by decide) (by decide)]) (h 82 (by decide) (by decide) (by decide)) (h 83 (by decide) (by decide) (by decide))
theorem Fr4.N {I I' : FI} {D : DV} (h : Fr4 I I') (hN : ∀ k, k < 51 → I 88 k = D k) : ∀ k, k < 51 → I' 88 k = D k := fun k hk => by rw [h 88 (by decide) (by decide) (by decide)]; exact hN k hk
theorem Fr4.tr {I I1 I2 : FI} (h : Fr4 I I1) (h2 : Fr4 I1 I2) : Fr4 I I2 := fun a q1 q2 q3 => (h2 a q1 q2 q3).trans (h a q1 q2 q3)
theorem Fr4.rf {I : FI} : Fr4 I I := fun _ _ _ _ => rfl
theorem Fr4.u {I I' : FI} {k : Nat} {v : Int32} (h : Fr4 I I') : Fr4 I (up2 I' 94 k v) := fun a q1 q2 q3 => by rw [up2_n _ _ _ q3]; exact h a q1 q2 q3
theorem FrM.go4 {I I1 I2 : FI} (h : FrM I I1) (h2 : Fr4 I1 I2) : FrM I I2 := h.go (fun a q1 q2 _ _ q5 => h2 a q1 q2 (by omega))
set_option maxHeartbeats 8000000 in
theorem c_X11_layAlone {G : Gx} {d : Nat} {I : FI} {R : FR} {J : FJ} {Q : Po} (hRM : ∀ k, R 69 k = refM k) {K : CO} {f : DV → Int32} {D : DV} (hK : CoastM I K) (hW : WK K) (hN : ∀ k, k < 51 → I 88 k = D k) (hL : LawM I f) {m h g n : Nat} (hm : m < cM K) (hh : h < cH K) (hg : g < cG K) (hn : n ≤ 24) (hq : ∀ I', Fr4 I I' → (∀ k, k < n → I' 94 k = alS K f D m h g k) → Q (.inl none) 103 I' R J) : Cc G mX11_layAlone (d + 5) 0 0 [rf G 69, .int (nI m), .int (nI h), .int (nI g), .int (nI n)] 103 I R J Q := by
  have h8 := hW.1
  have hg6 := hW.2.1
  have h6 := hW.2.2.1
  have L : ∀ k, k ≤ n → ∀ I1, Fr4 I I1 → (∀ j, j < k → I1 94 j = alS K f D m h g j) → V G mX11_layAlone (d + 5) 0 0 0 0 14 [(6, .int (nI k)), (5, .int (alH K f D m h g k)), (0, rf G 69), (1, .int (nI m)), (2, .int (nI h)), (3, .int (nI g)), (4, .int (nI n))] [] 103 I1 R J Q := by
    refine loopd n (fun I1 hF1 hA1 => ?_) (fun k hk ih I1 hF1 hA1 => ?_)
    · refine V_iload 16 0 rfl dX11_layAlone_14 rfl ?_
      refine V_iload 18 6 rfl dX11_layAlone_16 rfl ?_
      refine V_icmp_ge 104 21 rfl dX11_layAlone_18 rfl (fun c18 => ?_) (fun c18 => absurd (Int32.le_refl _) c18)
      refine V_ret_v rfl (Nat.le_of_ble_eq_true rfl) (fun h => absurd h (by decide)) (Nat.le_of_ble_eq_true rfl) (hq I1 hF1 hA1) dX11_layAlone_104
    · have hK1 := hF1.K hK
      have hL1 := hF1.L hL
      have hN1 := hF1.N hN
      refine V_iload 16 0 rfl dX11_layAlone_14 rfl ?_
      refine V_iload 18 6 rfl dX11_layAlone_16 rfl ?_
      refine V_icmp_ge 104 21 rfl dX11_layAlone_18 rfl (fun c18 => absurd c18 (nI_ge hk (by omega))) (fun c18 => ?_)
      refine V_aload_n 22 2 rfl _ rfl rfl dX11_layAlone_21 rfl ?_
      refine V_getR 25 69 11 47 94 (hRM 47) flX11_89 rfl rfl rfl (by decide) dX11_layAlone_22 rfl ?_
      refine V_iload 27 0 rfl dX11_layAlone_25 rfl ?_
      refine V_aload_n 28 2 rfl _ rfl rfl dX11_layAlone_27 rfl ?_
      refine V_aload_n 29 2 rfl _ rfl rfl dX11_layAlone_28 rfl ?_
      refine V_getR 32 69 11 14 76 (hRM 14) flX11_35 rfl rfl rfl (by decide) dX11_layAlone_29 rfl ?_
      refine V_iconst 33 (2) rfl dX11_layAlone_32 rfl ?_
      refine V_iload_n 34 4 rfl rfl dX11_layAlone_33 rfl ?_
      refine V_imul 35 dX11_layAlone_34 rfl ?_
      refine V_rw (pk_mul 2 h) ?_
      refine V_ialdN 36 76 16 (2 * h) (cHat K (2 * h)) (hK1.2.2.2.1 h hh).1 (by omega) (by decide) rfl (by decide) dX11_layAlone_35 rfl ?_
      refine V_aload_n 37 2 rfl _ rfl rfl dX11_layAlone_36 rfl ?_
      refine V_getR 40 69 11 40 88 (hRM 40) flX11_71 rfl rfl rfl (by decide) dX11_layAlone_37 rfl ?_
      refine V_bipush 42 (36) rfl dX11_layAlone_40 rfl ?_
      refine V_iload_n 43 4 rfl rfl dX11_layAlone_42 rfl ?_
      refine V_iadd 44 dX11_layAlone_43 rfl ?_
      refine V_rw (nI_add 36 h) ?_
      refine V_ialdN 45 88 51 (36 + h) (D (36 + h)) (hN1 (36 + h) (by omega)) (by omega) (by decide) rfl (by decide) dX11_layAlone_44 rfl ?_
      refine V_iadd 46 dX11_layAlone_45 rfl ?_
      refine V_aload_n 47 2 rfl _ rfl rfl dX11_layAlone_46 rfl ?_
      refine V_iload_n 48 4 rfl rfl dX11_layAlone_47 rfl ?_
      refine V_iload_n 49 5 rfl rfl dX11_layAlone_48 rfl ?_
      refine V_callV (K' := 0) (S' := 0) 52 69 11 2 [.int (nI h), .int (nI g)] mkX11_angleOf lkX11_348 (by decide) rfl rfl (by decide) rfl (Nat.le_of_ble_eq_true rfl) (Nat.le_of_ble_eq_true rfl) (Nat.le_of_ble_eq_true rfl) (Nat.le_of_ble_eq_true rfl) rfl rfl dX11_layAlone_49 rfl (c_X11_angleOf hRM hK1 hW hh hg ?_)
      refine Kq_i (k' := 0) (sl' := 0) rfl rfl ?_
      refine V_iload 54 0 rfl dX11_layAlone_52 rfl ?_
      refine V_aload_n 55 2 rfl _ rfl rfl dX11_layAlone_54 rfl ?_
      refine V_getR 58 69 11 16 78 (hRM 16) flX11_41 rfl rfl rfl (by decide) dX11_layAlone_55 rfl ?_
      refine V_iload_n 59 3 rfl rfl dX11_layAlone_58 rfl ?_
      refine V_ialdN 60 78 6 m (cBt K m) (hK1.2.2.2.2.2.1 m hm) (by omega) (by decide) rfl (by decide) dX11_layAlone_59 rfl ?_
      refine V_iload 62 1 rfl dX11_layAlone_60 rfl ?_
      refine V_aload_n 63 2 rfl _ rfl rfl dX11_layAlone_62 rfl ?_
      refine V_getR 66 69 11 40 88 (hRM 40) flX11_71 rfl rfl rfl (by decide) dX11_layAlone_63 rfl ?_
      refine V_bipush 68 (44) rfl dX11_layAlone_66 rfl ?_
      refine V_iload_n 69 5 rfl rfl dX11_layAlone_68 rfl ?_
      refine V_iadd 70 dX11_layAlone_69 rfl ?_
      refine V_rw (nI_add 44 g) ?_
      refine V_ialdN 71 88 51 (44 + g) (D (44 + g)) (hN1 (44 + g) (by omega)) (by omega) (by decide) rfl (by decide) dX11_layAlone_70 rfl ?_
      refine V_iconst 72 (0) rfl dX11_layAlone_71 rfl ?_
      refine V_aload_n 73 2 rfl _ rfl rfl dX11_layAlone_72 rfl ?_
      refine V_getR 76 69 11 40 88 (hRM 40) flX11_71 rfl rfl rfl (by decide) dX11_layAlone_73 rfl ?_
      refine V_bipush 78 (50) rfl dX11_layAlone_76 rfl ?_
      refine V_ialdN 79 88 51 50 (D 50) (hN1 50 (by omega)) (by omega) (by decide) rfl (by decide) dX11_layAlone_78 rfl ?_
      refine V_iload 81 0 rfl dX11_layAlone_79 rfl ?_
      refine V_iadd 82 dX11_layAlone_81 rfl ?_
      refine V_callV (K' := 0) (S' := 0) 85 69 11 8 [.int ((cHat K (2 * h)) + (D (36 + h))), .int (angF (cHat K (2 * h + 1)) (cGr K (2 * g + 1))), .int (nI k), .int (cBt K m), .int (alH K f D m h g k), .int (D (44 + g)), .int 0, .int ((D 50) + (nI k))] mkX11_seaOf lkX11_357 (by decide) rfl rfl (by decide) rfl (Nat.le_of_ble_eq_true rfl) (Nat.le_of_ble_eq_true rfl) (Nat.le_of_ble_eq_true rfl) (Nat.le_of_ble_eq_true rfl) rfl rfl dX11_layAlone_82 rfl (c_X11_seaOf hRM hL1 (fun I2 hF2 => ?_))
      refine Kq_i (k' := 0) (sl' := 0) rfl rfl ?_
      refine V_iastN 86 94 24 k (by omega) (by decide) rfl (by decide) dX11_layAlone_85 rfl ?_
      refine V_iload 88 1 rfl dX11_layAlone_86 rfl ?_
      refine V_aload_n 89 2 rfl _ rfl rfl dX11_layAlone_88 rfl ?_
      refine V_getR 92 69 11 47 94 (hRM 47) flX11_89 rfl rfl rfl (by decide) dX11_layAlone_89 rfl ?_
      refine V_iload 94 0 rfl dX11_layAlone_92 rfl ?_
      refine V_ialdN 95 94 24 k (alS K f D m h g k) (by rw [up2_s]; exact upd_s) (by omega) (by decide) rfl (by decide) dX11_layAlone_94 rfl ?_
      refine V_iadd 96 dX11_layAlone_95 rfl ?_
      refine V_rw (show _ = alH K f D m h g (k + 1) from rfl) ?_
      refine V_istore 98 [(5, .int (alH K f D m h g (k + 1))), (6, .int (nI k)), (0, rf G 69), (1, .int (nI m)), (2, .int (nI h)), (3, .int (nI g)), (4, .int (nI n))] (by decide) rfl dX11_layAlone_96 rfl ?_
      refine V_iinc 101 1 rfl (nI (k + 1)) [(6, .int (nI (k + 1))), (5, .int (alH K f D m h g (k + 1))), (0, rf G 69), (1, .int (nI m)), (2, .int (nI h)), (3, .int (nI g)), (4, .int (nI n))] (nI_1 _) (by decide) rfl dX11_layAlone_98 rfl ?_
      refine V_goto 14 rfl dX11_layAlone_101 ?_
      refine V_lv [0, 1, 2, 3, 4, 5, 6] rfl (ih _ ((hF1.tr (fun a q1 q2 _ => hF2 a q1 q2)).u) (fun j hj => ?_))
      by_cases e : j = k
      · subst e
        rw [up2_s]; exact upd_s
      · rw [up2_s, upd_n e, hF2 94 (by decide) (by decide)]; exact hA1 j (by omega)
  show V _ _ _ _ _ _ _ _ [(0, rf G 69), (1, .int (nI m)), (2, .int (nI h)), (3, .int (nI g)), (4, .int (nI n))] [] _ _ _ _ _
  refine V_aload_n 1 0 rfl _ rfl rfl dX11_layAlone_0 rfl ?_
  refine V_getR 4 69 11 40 88 (hRM 40) flX11_71 rfl rfl rfl (by decide) dX11_layAlone_1 rfl ?_
  refine V_bipush 6 (18) rfl dX11_layAlone_4 rfl ?_
  refine V_iload_n 7 1 rfl rfl dX11_layAlone_6 rfl ?_
  refine V_iadd 8 dX11_layAlone_7 rfl ?_
  refine V_rw (nI_add 18 m) ?_
  refine V_ialdN 9 88 51 (18 + m) (D (18 + m)) (hN (18 + m) (by omega)) (by omega) (by decide) rfl (by decide) dX11_layAlone_8 rfl ?_
  refine V_istore 11 [(5, .int (D (18 + m))), (0, rf G 69), (1, .int (nI m)), (2, .int (nI h)), (3, .int (nI g)), (4, .int (nI n))] (by decide) rfl dX11_layAlone_9 rfl ?_
  refine V_iconst 12 (0) rfl dX11_layAlone_11 rfl ?_
  refine V_istore 14 [(6, .int 0), (5, .int (D (18 + m))), (0, rf G 69), (1, .int (nI m)), (2, .int (nI h)), (3, .int (nI g)), (4, .int (nI n))] (by decide) rfl dX11_layAlone_12 rfl ?_
  exact V_lv [0, 1, 2, 3, 4, 5, 6] rfl (L 0 (Nat.zero_le _) I Fr4.rf (fun j hj => absurd hj (Nat.not_lt_zero _)))
set_option maxHeartbeats 8000000 in
theorem c_X11_hurtBy {G : Gx} {d : Nat} {I : FI} {R : FR} {J : FJ} {Q : Po} (hRM : ∀ k, R 69 k = refM k) {K : CO} {f : DV → Int32} {D : DV} (hK : CoastM I K) (hW : WK K) (hN : ∀ k, k < 51 → I 88 k = D k) (hL : LawM I f) {m h g n : Nat} (hm : m < cM K) (hh : h < cH K) (hg : g < cG K) (hn : n ≤ 24) (hq : ∀ I', Fr4 I I' → Q (.inl (some (.int (alT K f D m h g n)))) 103 I' R J) : Cc G mX11_hurtBy (d + 6) 0 0 [rf G 69, .int (nI m), .int (nI h), .int (nI g), .int (nI n)] 103 I R J Q := by
  show V _ _ _ _ _ _ _ _ [(0, rf G 69), (1, .int (nI m)), (2, .int (nI h)), (3, .int (nI g)), (4, .int (nI n))] [] _ _ _ _ _
  refine V_aload_n 1 0 rfl _ rfl rfl dX11_hurtBy_0 rfl ?_
  refine V_iload_n 2 1 rfl rfl dX11_hurtBy_1 rfl ?_
  refine V_iload_n 3 2 rfl rfl dX11_hurtBy_2 rfl ?_
  refine V_iload_n 4 3 rfl rfl dX11_hurtBy_3 rfl ?_
  refine V_iload 6 4 rfl dX11_hurtBy_4 rfl ?_
  refine V_callV (K' := 0) (S' := 0) 9 69 11 4 [.int (nI m), .int (nI h), .int (nI g), .int (nI n)] mkX11_layAlone lkX11_407 (by decide) rfl rfl (by decide) rfl (Nat.le_of_ble_eq_true rfl) (Nat.le_of_ble_eq_true rfl) (Nat.le_of_ble_eq_true rfl) (Nat.le_of_ble_eq_true rfl) rfl rfl dX11_hurtBy_6 rfl (c_X11_layAlone hRM hK hW hN hL hm hh hg hn (fun I1 hF1 hA1 => ?_))
  refine Kq_v (k' := 0) (sl' := 0) rfl rfl ?_
  refine V_iconst 10 (0) rfl dX11_hurtBy_9 rfl ?_
  refine V_istore 12 [(5, .int 0), (0, rf G 69), (1, .int (nI m)), (2, .int (nI h)), (3, .int (nI g)), (4, .int (nI n))] (by decide) rfl dX11_hurtBy_10 rfl ?_
  refine V_iconst 13 (0) rfl dX11_hurtBy_12 rfl ?_
  refine V_istore 15 [(6, .int 0), (5, .int 0), (0, rf G 69), (1, .int (nI m)), (2, .int (nI h)), (3, .int (nI g)), (4, .int (nI n))] (by decide) rfl dX11_hurtBy_13 rfl ?_
  have L : ∀ i, i ≤ n → V G mX11_hurtBy (d + 6) 0 0 0 0 15 [(6, .int (nI i)), (5, .int (alT K f D m h g i)), (0, rf G 69), (1, .int (nI m)), (2, .int (nI h)), (3, .int (nI g)), (4, .int (nI n))] [] 103 I1 R J Q := by
    refine loopd n ?_ (fun i hi ih => ?_)
    · refine V_iload 17 0 rfl dX11_hurtBy_15 rfl ?_
      refine V_iload 19 6 rfl dX11_hurtBy_17 rfl ?_
      refine V_icmp_ge 40 22 rfl dX11_hurtBy_19 rfl (fun c19 => ?_) (fun c19 => absurd (Int32.le_refl _) c19)
      refine V_iload 42 1 rfl dX11_hurtBy_40 rfl ?_
      refine V_ret_i rfl rfl (Nat.le_of_ble_eq_true rfl) (fun h => absurd h (by decide)) (Nat.le_of_ble_eq_true rfl) (hq I1 hF1) dX11_hurtBy_42
    · refine V_iload 17 0 rfl dX11_hurtBy_15 rfl ?_
      refine V_iload 19 6 rfl dX11_hurtBy_17 rfl ?_
      refine V_icmp_ge 40 22 rfl dX11_hurtBy_19 rfl (fun c19 => absurd c19 (nI_ge hi (by omega))) (fun c19 => ?_)
      refine V_iload 24 1 rfl dX11_hurtBy_22 rfl ?_
      refine V_aload_n 25 2 rfl _ rfl rfl dX11_hurtBy_24 rfl ?_
      refine V_getR 28 69 11 47 94 (hRM 47) flX11_89 rfl rfl rfl (by decide) dX11_hurtBy_25 rfl ?_
      refine V_iload 30 0 rfl dX11_hurtBy_28 rfl ?_
      refine V_ialdN 31 94 24 i (alS K f D m h g i) (hA1 i hi) (by omega) (by decide) rfl (by decide) dX11_hurtBy_30 rfl ?_
      refine V_iadd 32 dX11_hurtBy_31 rfl ?_
      refine V_rw (show _ = alT K f D m h g (i + 1) from rfl) ?_
      refine V_istore 34 [(5, .int (alT K f D m h g (i + 1))), (6, .int (nI i)), (0, rf G 69), (1, .int (nI m)), (2, .int (nI h)), (3, .int (nI g)), (4, .int (nI n))] (by decide) rfl dX11_hurtBy_32 rfl ?_
      refine V_iinc 37 1 rfl (nI (i + 1)) [(6, .int (nI (i + 1))), (5, .int (alT K f D m h g (i + 1))), (0, rf G 69), (1, .int (nI m)), (2, .int (nI h)), (3, .int (nI g)), (4, .int (nI n))] (nI_1 _) (by decide) rfl dX11_hurtBy_34 rfl ?_
      refine V_goto 15 rfl dX11_hurtBy_37 ?_
      exact V_lv [0, 1, 2, 3, 4, 5, 6] rfl (ih)
  exact V_lv [0, 1, 2, 3, 4, 5, 6] rfl (L 0 (Nat.zero_le _))
set_option maxHeartbeats 8000000 in
theorem c_X11_suits {G : Gx} {d : Nat} {I : FI} {R : FR} {J : FJ} {Q : Po} {K : CO} {f : DV → Int32} {D : DV} (hX : RM I R K f D) {x y z w : Int32}  (hq : HoM I R J Q 2 (ckN x (cM K) (ckN y (cG K) (ckW z 0 24 (ckW w 0 1 (.inl (if w = 0 then (suF K f D x.toNatClampNeg y.toNatClampNeg z.toNatClampNeg (cH K)).1 else (suF K f D x.toNatClampNeg y.toNatClampNeg z.toNatClampNeg (cH K)).2))))))) : Cc G mX11_suits (d + 60) 0 0 [rf G 69, .int x, .int y, .int z, .int w] 103 I R J Q := by
  obtain ⟨I0, hI0⟩ : ∃ I0, I0 = up2 I 69 0 0 := ⟨_, rfl⟩
  have hz := FrM.z hI0
  obtain ⟨hRM, hK, hW, hN, hI, hL, hfR⟩ := hX.fr hz
  have ht : I0 69 0 = 0 := hz.2.1
  have h8 := hW.1
  have hg6 := hW.2.1
  have h6 := hW.2.2.1
  have hWD := hI.1
  have hFl := hI.1.1
  have hB := hI.2.2.1
  have hSt := hI.2.1
  show V _ _ _ _ _ _ _ _ [(0, rf G 69), (1, .int x), (2, .int y), (3, .int z), (4, .int w)] [] _ _ _ _ _
  refine V_aload_n 1 0 rfl _ rfl rfl dX11_suits_0 rfl ?_
  refine V_iconst 2 (0) rfl dX11_suits_1 rfl ?_
  refine V_putI 5 69 11 0 flX11_3 rfl rfl rfl (by decide) rfl dX11_suits_2 rfl ?_
  rw [← hI0]
  refine V_aload_n 6 0 rfl _ rfl rfl dX11_suits_5 rfl ?_
  refine V_iload_n 7 1 rfl rfl dX11_suits_6 rfl ?_
  refine V_iconst 8 (1) rfl dX11_suits_7 rfl ?_
  refine V_callV (K' := 0) (S' := 0) 11 69 11 2 [.int x, .int 1] mkX11_isMan lkX11_404 (by decide) rfl rfl (by decide) rfl (Nat.le_of_ble_eq_true rfl) (Nat.le_of_ble_eq_true rfl) (Nat.le_of_ble_eq_true rfl) (Nat.le_of_ble_eq_true rfl) rfl rfl dX11_suits_8 rfl (c_X11_isMan (c := cM K) (cd := 1) hRM (by omega) hK.2.2.1 (by decide) (by decide) ht (fun i8 => ?_) (fun i8 => ?_))
  · refine Kq_i (k' := 0) (sl' := 0) rfl rfl ?_
    rw [ckN_y (by omega) i8] at hq
    obtain ⟨m, hm, rfl⟩ := i8
    refine V_if_eq 57 14 rfl dX11_suits_11 rfl (fun c11 => absurd c11 (by decide)) (fun c11 => ?_)
    refine V_aload_n 15 0 rfl _ rfl rfl dX11_suits_14 rfl ?_
    refine V_iload_n 16 2 rfl rfl dX11_suits_15 rfl ?_
    refine V_iconst 17 (1) rfl dX11_suits_16 rfl ?_
    refine V_callV (K' := 0) (S' := 0) 20 69 11 2 [.int y, .int 1] mkX11_isGround lkX11_401 (by decide) rfl rfl (by decide) rfl (Nat.le_of_ble_eq_true rfl) (Nat.le_of_ble_eq_true rfl) (Nat.le_of_ble_eq_true rfl) (Nat.le_of_ble_eq_true rfl) rfl rfl dX11_suits_17 rfl (c_X11_isGround (c := cG K) (cd := 1) hRM (by omega) hK.2.1 (by decide) (by decide) ht (fun i17 => ?_) (fun i17 => ?_))
    · refine Kq_i (k' := 0) (sl' := 0) rfl rfl ?_
      rw [ckN_y (by omega) i17] at hq
      obtain ⟨g, hg, rfl⟩ := i17
      refine V_if_eq 57 23 rfl dX11_suits_20 rfl (fun c20 => absurd c20 (by decide)) (fun c20 => ?_)
      refine V_aload_n 24 0 rfl _ rfl rfl dX11_suits_23 rfl ?_
      refine V_iload_n 25 3 rfl rfl dX11_suits_24 rfl ?_
      refine V_iconst 26 (0) rfl dX11_suits_25 rfl ?_
      refine V_bipush 28 (24) rfl dX11_suits_26 rfl ?_
      refine V_callS (K' := 0) (S' := 0) 31 3 [.int z, .int 0, .int 24] mkX11_within lkX11_383 rfl (Nat.le_of_ble_eq_true rfl) (Nat.le_of_ble_eq_true rfl) (Nat.le_of_ble_eq_true rfl) (Nat.le_of_ble_eq_true rfl) rfl rfl dX11_suits_28 rfl (c_X11_within (fun a28 b28 => ?_) (fun a28 => ?_))
      · refine Kq_i (k' := 0) (sl' := 0) rfl rfl ?_
        rw [ckW_y a28 b28] at hq
        obtain ⟨n, hn, rfl⟩ := in_nI (n := 24) (by decide) a28 b28
        refine V_if_eq 48 34 rfl dX11_suits_31 rfl (fun c31 => absurd c31 (by decide)) (fun c31 => ?_)
        refine V_iload 36 4 rfl dX11_suits_34 rfl ?_
        refine V_iconst 37 (0) rfl dX11_suits_36 rfl ?_
        refine V_iconst 38 (1) rfl dX11_suits_37 rfl ?_
        refine V_callS (K' := 0) (S' := 0) 41 3 [.int w, .int 0, .int 1] mkX11_within lkX11_383 rfl (Nat.le_of_ble_eq_true rfl) (Nat.le_of_ble_eq_true rfl) (Nat.le_of_ble_eq_true rfl) (Nat.le_of_ble_eq_true rfl) rfl rfl dX11_suits_38 rfl (c_X11_within (fun a38 b38 => ?_) (fun a38 => ?_))
        · refine Kq_i (k' := 0) (sl' := 0) rfl rfl ?_
          rw [ckW_y a38 b38] at hq
          refine V_if_eq 48 44 rfl dX11_suits_41 rfl (fun c41 => absurd c41 (by decide)) (fun c41 => ?_)
          refine V_iconst 45 (1) rfl dX11_suits_44 rfl ?_
          refine V_goto 49 rfl dX11_suits_45 ?_
          refine V_iconst 50 (2) rfl dX11_suits_49 rfl ?_
          refine V_iconst 51 (1) rfl dX11_suits_50 rfl ?_
          refine V_callV (K' := 0) (S' := 0) 54 69 11 3 [.int 1, .int 2, .int 1] mkX11_may lkX11_216 (by decide) rfl rfl (by decide) rfl (Nat.le_of_ble_eq_true rfl) (Nat.le_of_ble_eq_true rfl) (Nat.le_of_ble_eq_true rfl) (Nat.le_of_ble_eq_true rfl) rfl rfl dX11_suits_51 rfl (c_X11_may (cd := 2) (kd := 1) hRM (by decide) (by decide) (by decide) ht (fun _ => ?_) (fun e => absurd e (by decide)))
          refine Kq_i (k' := 0) (sl' := 0) rfl rfl ?_
          refine V_if_ne 59 57 rfl dX11_suits_54 rfl (fun c54 => ?_) (fun c54 => absurd c54 (by decide))
          refine V_aload_n 60 0 rfl _ rfl rfl dX11_suits_59 rfl ?_
          refine V_callV (K' := 0) (S' := 0) 63 69 11 0 [] mkX11_take lkX11_323 (by decide) rfl rfl (by decide) rfl (Nat.le_of_ble_eq_true rfl) (Nat.le_of_ble_eq_true rfl) (Nat.le_of_ble_eq_true rfl) (Nat.le_of_ble_eq_true rfl) rfl rfl dX11_suits_60 rfl (c_X11_take hRM (fun I1 hT1 hT2 => ?_))
          refine Kq_v (k' := 0) (sl' := 0) rfl rfl ?_
          have hz1 := hz.go (fun a _ _ h3 _ _ => hT1 a h3)
          have hM : DayM I1 D := fun k hk => (hT2 k hk).trans (hN k hk)
          have hK1 := hK.frS (fun a _ _ h3 _ => hT1 a h3)
          have hL1 := hL.fr (I' := I1) (by rw [hT1 69 (by decide)]) (hT1 82 (by decide)) (hT1 83 (by decide))
          refine V_iconst 64 (-1) rfl dX11_suits_63 rfl ?_
          refine V_istore 66 [(5, .int (-1)), (0, rf G 69), (1, .int (nI m)), (2, .int (nI g)), (3, .int (nI n)), (4, .int w)] (by decide) rfl dX11_suits_64 rfl ?_
          refine V_iconst 67 (-1) rfl dX11_suits_66 rfl ?_
          refine V_istore 69 [(6, .int (-1)), (5, .int (-1)), (0, rf G 69), (1, .int (nI m)), (2, .int (nI g)), (3, .int (nI n)), (4, .int w)] (by decide) rfl dX11_suits_67 rfl ?_
          refine V_iconst 70 (0) rfl dX11_suits_69 rfl ?_
          refine V_istore 72 [(7, .int 0), (6, .int (-1)), (5, .int (-1)), (0, rf G 69), (1, .int (nI m)), (2, .int (nI g)), (3, .int (nI n)), (4, .int w)] (by decide) rfl dX11_suits_70 rfl ?_
          rw [nI_clamp (show m < 2 ^ 31 by omega), nI_clamp (show g < 2 ^ 31 by omega), nI_clamp (show n < 2 ^ 31 by omega)] at hq
          have L : ∀ i, i ≤ cH K → ∀ I2, Fr4 I1 I2 → V G mX11_suits (d + 60) 0 0 0 0 72 [(7, .int (nI i)), (5, .int ((suF K f D m g n i).1)), (6, .int ((suF K f D m g n i).2)), (0, rf G 69), (1, .int (nI m)), (2, .int (nI g)), (3, .int (nI n)), (4, .int w)] [] 103 I2 R J Q := by
            refine loopd (cH K) (fun I2 hF2 => ?_) (fun i hi ih I2 hF2 => ?_)
            · have hK2 := hF2.K hK1
              refine V_iload 74 0 rfl dX11_suits_72 rfl ?_
              refine V_aload_n 75 3 rfl _ rfl rfl dX11_suits_74 rfl ?_
              refine V_getI 78 69 11 21 (nI (cH K)) hK2.1 flX11_175 rfl rfl rfl (by decide) dX11_suits_75 rfl ?_
              refine V_icmp_ge 145 81 rfl dX11_suits_78 rfl (fun c78 => ?_) (fun c78 => absurd (Int32.le_refl _) c78)
              refine V_iload 147 7 rfl dX11_suits_145 rfl ?_
              refine V_if_ne 155 150 rfl dX11_suits_147 rfl (fun c147 => ?_) (fun c147 => ?_)
              · refine V_iload 157 2 rfl dX11_suits_155 rfl ?_
                refine V_ret_i rfl rfl (Nat.le_of_ble_eq_true rfl) (fun h => absurd h (by decide)) (Nat.le_of_ble_eq_true rfl) (by rw [if_neg c147] at hq; exact hq I2 (hz1.go4 hF2)) dX11_suits_157
              · refine V_iload 152 1 rfl dX11_suits_150 rfl ?_
                refine V_goto 157 rfl dX11_suits_152 ?_
                refine V_ret_i rfl rfl (Nat.le_of_ble_eq_true rfl) (fun h => absurd h (by decide)) (Nat.le_of_ble_eq_true rfl) (by rw [if_pos c147] at hq; exact hq I2 (hz1.go4 hF2)) dX11_suits_157
            · have hK2 := hF2.K hK1
              have hM2 : DayM I2 D := fun k hk => by rw [hF2 89 (by decide) (by decide) (by decide)]; exact hM k hk
              have hN1 : ∀ k, k < 51 → I1 88 k = D k := fun k hk => by rw [hz1.1 88 (by decide) (by decide) (by decide) (by decide) (by decide) (by decide)]; exact hX.2.2.2.1 k hk
              have H104 : (wearF D (nI i) 6 0 = -1 ∨ wearF D (nI i) 6 0 = nI m) → V G mX11_suits (d + 60) 0 0 0 0 104 [(7, .int (nI i)), (5, .int ((suF K f D m g n i).1)), (6, .int ((suF K f D m g n i).2)), (0, rf G 69), (1, .int (nI m)), (2, .int (nI g)), (3, .int (nI n)), (4, .int w)] [] 103 I2 R J Q := by
                intro hw
                refine V_aload_n 105 3 rfl _ rfl rfl dX11_suits_104 rfl ?_
                refine V_iload_n 106 4 rfl rfl dX11_suits_105 rfl ?_
                refine V_iload 108 0 rfl dX11_suits_106 rfl ?_
                refine V_iload_n 109 5 rfl rfl dX11_suits_108 rfl ?_
                refine V_iload_n 110 6 rfl rfl dX11_suits_109 rfl ?_
                refine V_callV (K' := 0) (S' := 0) 113 69 11 4 [.int (nI m), .int (nI i), .int (nI g), .int (nI n)] mkX11_hurtBy lkX11_411 (by decide) rfl rfl (by decide) rfl (Nat.le_of_ble_eq_true rfl) (Nat.le_of_ble_eq_true rfl) (Nat.le_of_ble_eq_true rfl) (Nat.le_of_ble_eq_true rfl) rfl rfl dX11_suits_110 rfl (c_X11_hurtBy hRM hK2 hW (hF2.N hN1) (hF2.L hL1) hm hi hg hn (fun I3 hF3 => ?_))
                refine Kq_i (k' := 0) (sl' := 0) rfl rfl ?_
                refine V_istore 115 [(9, .int (alT K f D m i g n)), (7, .int (nI i)), (5, .int ((suF K f D m g n i).1)), (6, .int ((suF K f D m g n i).2)), (0, rf G 69), (1, .int (nI m)), (2, .int (nI g)), (3, .int (nI n)), (4, .int w)] (by decide) rfl dX11_suits_113 rfl ?_
                refine V_iload 117 2 rfl dX11_suits_115 rfl ?_
                refine V_iconst 118 (-1) rfl dX11_suits_117 rfl ?_
                refine V_icmp_eq 131 121 rfl dX11_suits_118 rfl (fun c118 => ?_) (fun c118 => ?_)
                · refine V_iload 133 1 rfl dX11_suits_131 rfl ?_
                  refine V_istore 135 [(5, .int (nI i)), (9, .int (alT K f D m i g n)), (7, .int (nI i)), (6, .int ((suF K f D m g n i).2)), (0, rf G 69), (1, .int (nI m)), (2, .int (nI g)), (3, .int (nI n)), (4, .int w)] (by decide) rfl dX11_suits_133 rfl ?_
                  refine V_iload 137 1 rfl dX11_suits_135 rfl ?_
                  refine V_istore 139 [(6, .int (alT K f D m i g n)), (5, .int (nI i)), (9, .int (alT K f D m i g n)), (7, .int (nI i)), (0, rf G 69), (1, .int (nI m)), (2, .int (nI g)), (3, .int (nI n)), (4, .int w)] (by decide) rfl dX11_suits_137 rfl ?_
                  refine V_iinc 142 3 rfl (nI (i + 1)) [(7, .int (nI (i + 1))), (6, .int (alT K f D m i g n)), (5, .int (nI i)), (9, .int (alT K f D m i g n)), (0, rf G 69), (1, .int (nI m)), (2, .int (nI g)), (3, .int (nI n)), (4, .int w)] (nI_1 _) (by decide) rfl dX11_suits_139 rfl ?_
                  refine V_goto 72 rfl dX11_suits_142 ?_
                  have eS : suF K f D m g n (i + 1) = (nI i, alT K f D m i g n) := by
                    rw [suF, if_pos hw, if_pos (by first | exact Or.inl c118 | exact Or.inr c125)]
                  rw [eS] at ih
                  exact V_lv [0, 2, 1, 4, 5, 6, 7, 8] rfl (ih I3 (hF2.tr hF3))
                · refine V_iload 123 0 rfl dX11_suits_121 rfl ?_
                  refine V_iload 125 3 rfl dX11_suits_123 rfl ?_
                  refine V_icmp_lt 131 128 rfl dX11_suits_125 rfl (fun c125 => ?_) (fun c125 => ?_)
                  · refine V_iload 133 1 rfl dX11_suits_131 rfl ?_
                    refine V_istore 135 [(5, .int (nI i)), (9, .int (alT K f D m i g n)), (7, .int (nI i)), (6, .int ((suF K f D m g n i).2)), (0, rf G 69), (1, .int (nI m)), (2, .int (nI g)), (3, .int (nI n)), (4, .int w)] (by decide) rfl dX11_suits_133 rfl ?_
                    refine V_iload 137 1 rfl dX11_suits_135 rfl ?_
                    refine V_istore 139 [(6, .int (alT K f D m i g n)), (5, .int (nI i)), (9, .int (alT K f D m i g n)), (7, .int (nI i)), (0, rf G 69), (1, .int (nI m)), (2, .int (nI g)), (3, .int (nI n)), (4, .int w)] (by decide) rfl dX11_suits_137 rfl ?_
                    refine V_iinc 142 3 rfl (nI (i + 1)) [(7, .int (nI (i + 1))), (6, .int (alT K f D m i g n)), (5, .int (nI i)), (9, .int (alT K f D m i g n)), (0, rf G 69), (1, .int (nI m)), (2, .int (nI g)), (3, .int (nI n)), (4, .int w)] (nI_1 _) (by decide) rfl dX11_suits_139 rfl ?_
                    refine V_goto 72 rfl dX11_suits_142 ?_
                    have eS : suF K f D m g n (i + 1) = (nI i, alT K f D m i g n) := by
                      rw [suF, if_pos hw, if_pos (by first | exact Or.inl c118 | exact Or.inr c125)]
                    rw [eS] at ih
                    exact V_lv [0, 2, 1, 4, 5, 6, 7, 8] rfl (ih I3 (hF2.tr hF3))
                  · refine V_goto 139 rfl dX11_suits_128 ?_
                    refine V_iinc 142 1 rfl (nI (i + 1)) [(7, .int (nI (i + 1))), (9, .int (alT K f D m i g n)), (5, .int ((suF K f D m g n i).1)), (6, .int ((suF K f D m g n i).2)), (0, rf G 69), (1, .int (nI m)), (2, .int (nI g)), (3, .int (nI n)), (4, .int w)] (nI_1 _) (by decide) rfl dX11_suits_139 rfl ?_
                    refine V_goto 72 rfl dX11_suits_142 ?_
                    have eS : suF K f D m g n (i + 1) = suF K f D m g n i := by
                      rw [suF, if_pos hw, if_neg (fun q => q.elim c118 c125)]
                    rw [eS] at ih
                    exact V_lv [0, 2, 3, 4, 5, 6, 7, 8] rfl (ih I3 (hF2.tr hF3))
              refine V_iload 74 0 rfl dX11_suits_72 rfl ?_
              refine V_aload_n 75 3 rfl _ rfl rfl dX11_suits_74 rfl ?_
              refine V_getI 78 69 11 21 (nI (cH K)) hK2.1 flX11_175 rfl rfl rfl (by decide) dX11_suits_75 rfl ?_
              refine V_icmp_ge 145 81 rfl dX11_suits_78 rfl (fun c78 => absurd c78 (nI_ge hi (by omega))) (fun c78 => ?_)
              refine V_aload_n 82 3 rfl _ rfl rfl dX11_suits_81 rfl ?_
              refine V_iload 84 0 rfl dX11_suits_82 rfl ?_
              refine V_callV (K' := 0) (S' := 0) 87 69 11 1 [.int (nI i)] mkX11_wearerOf lkX11_361 (by decide) rfl rfl (by decide) rfl (Nat.le_of_ble_eq_true rfl) (Nat.le_of_ble_eq_true rfl) (Nat.le_of_ble_eq_true rfl) (Nat.le_of_ble_eq_true rfl) rfl rfl dX11_suits_84 rfl (c_X11_wearerOf hRM hK2 h6 hM2 ?_)
              rw [← wearF_to (D := D) (show i < 2 ^ 31 by omega) h6 (fun j a b => (hB j a b).1)]
              refine Kq_i (k' := 0) (sl' := 0) rfl rfl ?_
              refine V_istore 89 [(8, .int (wearF D (nI i) 6 0)), (7, .int (nI i)), (5, .int ((suF K f D m g n i).1)), (6, .int ((suF K f D m g n i).2)), (0, rf G 69), (1, .int (nI m)), (2, .int (nI g)), (3, .int (nI n)), (4, .int w)] (by decide) rfl dX11_suits_87 rfl ?_
              refine V_iload 91 0 rfl dX11_suits_89 rfl ?_
              refine V_iconst 92 (-1) rfl dX11_suits_91 rfl ?_
              refine V_icmp_eq 104 95 rfl dX11_suits_92 rfl (fun c92 => ?_) (fun c92 => ?_)
              · exact V_lv [1, 2, 3, 4, 5, 6, 7, 8] rfl (H104 (by first | exact Or.inl c92 | exact Or.inr c98))
              · refine V_iload 97 0 rfl dX11_suits_95 rfl ?_
                refine V_iload_n 98 5 rfl rfl dX11_suits_97 rfl ?_
                refine V_icmp_eq 104 101 rfl dX11_suits_98 rfl (fun c98 => ?_) (fun c98 => ?_)
                · exact V_lv [1, 2, 3, 4, 5, 6, 7, 8] rfl (H104 (by first | exact Or.inl c92 | exact Or.inr c98))
                · refine V_goto 139 rfl dX11_suits_101 ?_
                  refine V_iinc 142 1 rfl (nI (i + 1)) [(7, .int (nI (i + 1))), (8, .int (wearF D (nI i) 6 0)), (5, .int ((suF K f D m g n i).1)), (6, .int ((suF K f D m g n i).2)), (0, rf G 69), (1, .int (nI m)), (2, .int (nI g)), (3, .int (nI n)), (4, .int w)] (nI_1 _) (by decide) rfl dX11_suits_139 rfl ?_
                  refine V_goto 72 rfl dX11_suits_142 ?_
                  have eS : suF K f D m g n (i + 1) = suF K f D m g n i := by
                    rw [suF, if_neg (fun q => q.elim c92 c98)]
                  rw [eS] at ih
                  exact V_lv [0, 2, 3, 4, 5, 6, 7, 8] rfl (ih I2 hF2)
          exact V_lv [0, 2, 1, 3, 4, 5, 6, 7] rfl (L 0 (Nat.zero_le _) I1 Fr4.rf)
        · refine Kq_i (k' := 0) (sl' := 0) rfl rfl ?_
          rw [ckW_n a38] at hq
          refine V_if_eq 48 44 rfl dX11_suits_41 rfl (fun c41 => ?_) (fun c41 => absurd c41 (by decide))
          refine V_iconst 49 (0) rfl dX11_suits_48 rfl ?_
          refine V_iconst 50 (2) rfl dX11_suits_49 rfl ?_
          refine V_iconst 51 (1) rfl dX11_suits_50 rfl ?_
          refine V_callV (K' := 0) (S' := 0) 54 69 11 3 [.int 0, .int 2, .int 1] mkX11_may lkX11_216 (by decide) rfl rfl (by decide) rfl (Nat.le_of_ble_eq_true rfl) (Nat.le_of_ble_eq_true rfl) (Nat.le_of_ble_eq_true rfl) (Nat.le_of_ble_eq_true rfl) rfl rfl dX11_suits_51 rfl (c_X11_may (cd := 2) (kd := 1) hRM (by decide) (by decide) (by decide) ht (fun e => absurd rfl e) (fun _ => ?_))
          refine Kq_i (k' := 0) (sl' := 0) rfl rfl ?_
          refine V_if_ne 59 57 rfl dX11_suits_54 rfl (fun c54 => absurd c54 (by decide)) (fun c54 => ?_)
          refine V_iconst 58 (0) rfl dX11_suits_57 rfl ?_
          refine V_ret_i rfl rfl (Nat.le_of_ble_eq_true rfl) (fun h => absurd h (by decide)) (Nat.le_of_ble_eq_true rfl) (hq.x hI0 rfl) dX11_suits_58
      · refine Kq_i (k' := 0) (sl' := 0) rfl rfl ?_
        rw [ckW_n a28] at hq
        refine V_if_eq 48 34 rfl dX11_suits_31 rfl (fun c31 => ?_) (fun c31 => absurd c31 (by decide))
        refine V_iconst 49 (0) rfl dX11_suits_48 rfl ?_
        refine V_iconst 50 (2) rfl dX11_suits_49 rfl ?_
        refine V_iconst 51 (1) rfl dX11_suits_50 rfl ?_
        refine V_callV (K' := 0) (S' := 0) 54 69 11 3 [.int 0, .int 2, .int 1] mkX11_may lkX11_216 (by decide) rfl rfl (by decide) rfl (Nat.le_of_ble_eq_true rfl) (Nat.le_of_ble_eq_true rfl) (Nat.le_of_ble_eq_true rfl) (Nat.le_of_ble_eq_true rfl) rfl rfl dX11_suits_51 rfl (c_X11_may (cd := 2) (kd := 1) hRM (by decide) (by decide) (by decide) ht (fun e => absurd rfl e) (fun _ => ?_))
        refine Kq_i (k' := 0) (sl' := 0) rfl rfl ?_
        refine V_if_ne 59 57 rfl dX11_suits_54 rfl (fun c54 => absurd c54 (by decide)) (fun c54 => ?_)
        refine V_iconst 58 (0) rfl dX11_suits_57 rfl ?_
        refine V_ret_i rfl rfl (Nat.le_of_ble_eq_true rfl) (fun h => absurd h (by decide)) (Nat.le_of_ble_eq_true rfl) (hq.x hI0 rfl) dX11_suits_58
    · refine Kq_i (k' := 0) (sl' := 0) rfl rfl ?_
      rw [ckN_n (by omega) i17] at hq
      refine V_if_eq 57 23 rfl dX11_suits_20 rfl (fun c20 => ?_) (fun c20 => absurd c20 (by decide))
      refine V_iconst 58 (0) rfl dX11_suits_57 rfl ?_
      refine V_ret_i rfl rfl (Nat.le_of_ble_eq_true rfl) (fun h => absurd h (by decide)) (Nat.le_of_ble_eq_true rfl) (hq.x hI0 rfl) dX11_suits_58
  · refine Kq_i (k' := 0) (sl' := 0) rfl rfl ?_
    rw [ckN_n (by omega) i8] at hq
    refine V_if_eq 57 14 rfl dX11_suits_11 rfl (fun c11 => ?_) (fun c11 => absurd c11 (by decide))
    refine V_iconst 58 (0) rfl dX11_suits_57 rfl ?_
    refine V_ret_i rfl rfl (Nat.le_of_ble_eq_true rfl) (fun h => absurd h (by decide)) (Nat.le_of_ble_eq_true rfl) (hq.x hI0 rfl) dX11_suits_58
