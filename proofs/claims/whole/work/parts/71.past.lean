/-! ===== days in rows; what is kept of them ===== -/
def RowC (g : DV) (q : Nat) (D : DV) : Prop := g q = D 50 ∧ g (q + 1) = livB D 6 ∧ (∀ m, m < 6 → g (q + 2 + m) = D (18 + m)) ∧ (∀ m, m < 6 → g (q + 8 + m) = D m) ∧ (∀ m, m < 6 → g (q + 14 + m) = D (6 + m)) ∧ (∀ m, m < 6 → g (q + 20 + m) = D (12 + m)) ∧ (∀ m, m < 6 → g (q + 26 + m) = D (24 + m)) ∧ (∀ h, h < 8 → g (q + 32 + h) = D (36 + h)) ∧ (∀ h, h < 6 → g (q + 40 + h) = D (44 + h))
theorem RowC.cg {g g' : DV} {q q' : Nat} {D : DV} (h : RowC g q D) (e : ∀ j, j < 46 → g' (q' + j) = g (q + j)) : RowC g' q' D := by
  obtain ⟨h1, h2, h3, h4, h5, h6, h7, h8, h9⟩ := h
  refine ⟨(e 0 (by decide)).trans h1, (e 1 (by decide)).trans h2, fun m hm => ?_, fun m hm => ?_, fun m hm => ?_, fun m hm => ?_, fun m hm => ?_, fun m hm => ?_, fun m hm => ?_⟩
  · rw [Nat.add_assoc, e _ (by omega), ← Nat.add_assoc]; exact h3 m hm
  · rw [Nat.add_assoc, e _ (by omega), ← Nat.add_assoc]; exact h4 m hm
  · rw [Nat.add_assoc, e _ (by omega), ← Nat.add_assoc]; exact h5 m hm
  · rw [Nat.add_assoc, e _ (by omega), ← Nat.add_assoc]; exact h6 m hm
  · rw [Nat.add_assoc, e _ (by omega), ← Nat.add_assoc]; exact h7 m hm
  · rw [Nat.add_assoc, e _ (by omega), ← Nat.add_assoc]; exact h8 m hm
  · rw [Nat.add_assoc, e _ (by omega), ← Nat.add_assoc]; exact h9 m hm
theorem cpy_in {f g : DV} {s e k j : Nat} (h1 : e ≤ j) (h2 : j < e + k) : va_cpy f g s e k j = f (s + (j - e)) := if_pos ⟨h1, h2⟩
theorem cpy_out {f g : DV} {s e k j : Nat} (h : j < e ∨ e + k ≤ j) : va_cpy f g s e k j = g j := if_neg (by omega)
theorem upA_upA {I : FI} {a : Nat} {f g : DV} : upA (upA I a f) a g = upA I a g := by
  funext o; unfold upA; by_cases h : o = a
  · rw [if_pos h, if_pos h]
  · rw [if_neg h, if_neg h, if_neg h]
theorem cp_up {I : FI} {a b : Nat} {g : DV} {sp dp z : Int32} {s e k : Nat} (h : b ≠ a) (h1 : sp.toNatClampNeg = s) (h2 : dp.toNatClampNeg = e) (h3 : z.toNatClampNeg = k) : upA (upA I a g) a (va_cpy ((upA I a g) b) ((upA I a g) a) sp.toNatClampNeg dp.toNatClampNeg z.toNatClampNeg) = upA I a (va_cpy (I b) g s e k) := by
  rw [h1, h2, h3, upA_upA, upA_n h, upA_s]
theorem c_X3_writeTo_40 {G : Gx} {d : Nat} {I : FI} {R : FR} {J : FJ} {Q : Po} (hRK : RK R) {D : DV} (hD : DayC I 18 D) {q : Nat} (hq46 : q + 46 ≤ 736) (hq : ∀ g : DV, RowC g q D → (∀ j, (j < q ∨ q + 46 ≤ j) → g j = I 40 j) → Q (.inl none) 103 (upA I 40 g) R J) : Cc G mX3_writeTo d 0 0 [rf G 18, rf G 40, .int (nI q)] 103 I R J Q := by
  obtain ⟨g0, e0⟩ : ∃ g0, g0 = upd (upd (I 40) q (D 50)) (q + 1) (livB D 6) := ⟨_, rfl⟩
  obtain ⟨g1, e1⟩ : ∃ g1, g1 = va_cpy (I 19) g0 0 (q + 2) 6 := ⟨_, rfl⟩
  obtain ⟨g2, e2⟩ : ∃ g2, g2 = va_cpy (I 20) g1 0 (q + 8) 6 := ⟨_, rfl⟩
  obtain ⟨g3, e3⟩ : ∃ g3, g3 = va_cpy (I 21) g2 0 (q + 14) 6 := ⟨_, rfl⟩
  obtain ⟨g4, e4⟩ : ∃ g4, g4 = va_cpy (I 22) g3 0 (q + 20) 6 := ⟨_, rfl⟩
  obtain ⟨g5, e5⟩ : ∃ g5, g5 = va_cpy (I 23) g4 0 (q + 26) 6 := ⟨_, rfl⟩
  obtain ⟨g6, e6⟩ : ∃ g6, g6 = va_cpy (I 24) g5 0 (q + 32) 8 := ⟨_, rfl⟩
  obtain ⟨g7, e7⟩ : ∃ g7, g7 = va_cpy (I 25) g6 0 (q + 40) 6 := ⟨_, rfl⟩
  obtain ⟨h1, h2, h3, h4, h5, h6, h7, h8, h9⟩ := hD
  have hrow : RowC g7 q D := by
    refine ⟨?_, ?_, fun m hm => ?_, fun m hm => ?_, fun m hm => ?_, fun m hm => ?_, fun m hm => ?_, fun m hm => ?_, fun m hm => ?_⟩
    · rw [e7, cpy_out (by omega), e6, cpy_out (by omega), e5, cpy_out (by omega), e4, cpy_out (by omega), e3, cpy_out (by omega), e2, cpy_out (by omega), e1, cpy_out (by omega), e0, upd_n (by omega), upd_s]
    · rw [e7, cpy_out (by omega), e6, cpy_out (by omega), e5, cpy_out (by omega), e4, cpy_out (by omega), e3, cpy_out (by omega), e2, cpy_out (by omega), e1, cpy_out (by omega), e0, upd_s]
    · rw [e7, cpy_out (by omega), e6, cpy_out (by omega), e5, cpy_out (by omega), e4, cpy_out (by omega), e3, cpy_out (by omega), e2, cpy_out (by omega), e1, cpy_in (by omega) (by omega), show 0 + (q + 2 + m - (q + 2)) = m by omega]; exact h1 m hm
    · rw [e7, cpy_out (by omega), e6, cpy_out (by omega), e5, cpy_out (by omega), e4, cpy_out (by omega), e3, cpy_out (by omega), e2, cpy_in (by omega) (by omega), show 0 + (q + 8 + m - (q + 8)) = m by omega]; exact h2 m hm
    · rw [e7, cpy_out (by omega), e6, cpy_out (by omega), e5, cpy_out (by omega), e4, cpy_out (by omega), e3, cpy_in (by omega) (by omega), show 0 + (q + 14 + m - (q + 14)) = m by omega]; exact h3 m hm
    · rw [e7, cpy_out (by omega), e6, cpy_out (by omega), e5, cpy_out (by omega), e4, cpy_in (by omega) (by omega), show 0 + (q + 20 + m - (q + 20)) = m by omega]; exact h4 m hm
    · rw [e7, cpy_out (by omega), e6, cpy_out (by omega), e5, cpy_in (by omega) (by omega), show 0 + (q + 26 + m - (q + 26)) = m by omega]; exact h5 m hm
    · rw [e7, cpy_out (by omega), e6, cpy_in (by omega) (by omega), show 0 + (q + 32 + m - (q + 32)) = m by omega]; exact h6 m hm
    · rw [e7, cpy_in (by omega) (by omega), show 0 + (q + 40 + m - (q + 40)) = m by omega]; exact h7 m hm
  have hout : ∀ j, (j < q ∨ q + 46 ≤ j) → g7 j = I 40 j := fun j hj => by rw [e7, cpy_out (by omega), e6, cpy_out (by omega), e5, cpy_out (by omega), e4, cpy_out (by omega), e3, cpy_out (by omega), e2, cpy_out (by omega), e1, cpy_out (by omega), e0, upd_n (by omega), upd_n (by omega)]
  have s0 : up2 (up2 I 40 q (D 50)) 40 (q + 1) (livB D 6) = upA I 40 g0 := by rw [e0]; funext o; unfold up2 upA; by_cases h : o = 40 <;> simp [h]
  show V _ _ _ _ _ _ _ _ [(0, rf G 18), (1, rf G 40), (2, .int (nI q))] [] _ _ _ _ _
  refine V_aload_n 1 1 rfl _ rfl rfl dX3_writeTo_0 rfl ?_
  refine V_iload_n 2 2 rfl rfl dX3_writeTo_1 rfl ?_
  refine V_aload_n 3 0 rfl _ rfl rfl dX3_writeTo_2 rfl ?_
  refine V_getI 6 18 3 7 (D 50) h8 flX3_54 rfl rfl rfl (by decide) dX3_writeTo_3 rfl ?_
  refine V_iastN 7 40 736 q (by omega) (by decide) rfl (by decide) dX3_writeTo_6 rfl ?_
  refine V_aload_n 8 1 rfl _ rfl rfl dX3_writeTo_7 rfl ?_
  refine V_iload_n 9 2 rfl rfl dX3_writeTo_8 rfl ?_
  refine V_iconst 10 (1) rfl dX3_writeTo_9 rfl ?_
  refine V_iadd 11 dX3_writeTo_10 rfl ?_
  refine V_rw (nI_add q 1) ?_
  refine V_aload_n 12 0 rfl _ rfl rfl dX3_writeTo_11 rfl ?_
  refine V_getI 15 18 3 8 (livB D 6) (by rw [up2_n _ _ _ (by decide)]; exact h9) flX3_60 rfl rfl rfl (by decide) dX3_writeTo_12 rfl ?_
  refine V_iastN 16 40 736 (q + 1) (by omega) (by decide) rfl (by decide) dX3_writeTo_15 rfl ?_
  refine V_rwI s0 ?_
  refine V_iload_n 17 2 rfl rfl dX3_writeTo_16 rfl ?_
  refine V_iconst 18 (2) rfl dX3_writeTo_17 rfl ?_
  refine V_iadd 19 dX3_writeTo_18 rfl ?_
  refine V_rw (show _ = nI (q + 2) from by rw [show ((2 : Int32)) = nI 2 from rfl, nI_add]) ?_
  refine V_istore_n 20 [(3, .int (nI (q + 2))), (0, rf G 18), (1, rf G 40), (2, .int (nI q))] (by decide) rfl rfl dX3_writeTo_19 rfl ?_
  refine V_aload_n 21 1 rfl _ rfl rfl dX3_writeTo_20 rfl ?_
  refine V_getR 24 18 3 0 19 (hRK 18 0 (by decide) (by decide) (by decide)) flX3_9 rfl rfl rfl (by decide) dX3_writeTo_21 rfl ?_
  refine V_iconst 25 (0) rfl dX3_writeTo_24 rfl ?_
  refine V_aload_n 26 2 rfl _ rfl rfl dX3_writeTo_25 rfl ?_
  refine V_iload_n 27 0 rfl rfl dX3_writeTo_26 rfl ?_
  refine V_bipush 29 (6) rfl dX3_writeTo_27 rfl ?_
  refine V_copy 32 19 40 6 736 lkX3_48 rfl rfl (by decide) (by decide) (by decide) (nI_pos (by omega)) (by decide) (by decide) (by rw [nI_clamp (by omega)]; show _ + 6 ≤ 736; omega) (Nat.le_of_ble_eq_true rfl) dX3_writeTo_29 rfl ?_
  refine V_rwI ((cp_up (s := 0) (e := q + 2) (k := 6) (by decide) rfl (nI_clamp (by omega)) rfl).trans (by rw [← e1])) ?_
  refine V_aload_n 33 1 rfl _ rfl rfl dX3_writeTo_32 rfl ?_
  refine V_getR 36 18 3 1 20 (hRK 18 1 (by decide) (by decide) (by decide)) flX3_15 rfl rfl rfl (by decide) dX3_writeTo_33 rfl ?_
  refine V_iconst 37 (0) rfl dX3_writeTo_36 rfl ?_
  refine V_aload_n 38 2 rfl _ rfl rfl dX3_writeTo_37 rfl ?_
  refine V_iload_n 39 0 rfl rfl dX3_writeTo_38 rfl ?_
  refine V_bipush 41 (6) rfl dX3_writeTo_39 rfl ?_
  refine V_iadd 42 dX3_writeTo_41 rfl ?_
  refine V_rw (show _ = nI (q + 8) from by rw [show ((6 : Int32)) = nI 6 from rfl, nI_add]) ?_
  refine V_bipush 44 (6) rfl dX3_writeTo_42 rfl ?_
  refine V_copy 47 20 40 6 736 lkX3_48 rfl rfl (by decide) (by decide) (by decide) (nI_pos (by omega)) (by decide) (by decide) (by rw [nI_clamp (by omega)]; show _ + 6 ≤ 736; omega) (Nat.le_of_ble_eq_true rfl) dX3_writeTo_44 rfl ?_
  refine V_rwI ((cp_up (s := 0) (e := q + 8) (k := 6) (by decide) rfl (nI_clamp (by omega)) rfl).trans (by rw [← e2])) ?_
  refine V_aload_n 48 1 rfl _ rfl rfl dX3_writeTo_47 rfl ?_
  refine V_getR 51 18 3 2 21 (hRK 18 2 (by decide) (by decide) (by decide)) flX3_18 rfl rfl rfl (by decide) dX3_writeTo_48 rfl ?_
  refine V_iconst 52 (0) rfl dX3_writeTo_51 rfl ?_
  refine V_aload_n 53 2 rfl _ rfl rfl dX3_writeTo_52 rfl ?_
  refine V_iload_n 54 0 rfl rfl dX3_writeTo_53 rfl ?_
  refine V_bipush 56 (12) rfl dX3_writeTo_54 rfl ?_
  refine V_iadd 57 dX3_writeTo_56 rfl ?_
  refine V_rw (show _ = nI (q + 14) from by rw [show ((12 : Int32)) = nI 12 from rfl, nI_add]) ?_
  refine V_bipush 59 (6) rfl dX3_writeTo_57 rfl ?_
  refine V_copy 62 21 40 6 736 lkX3_48 rfl rfl (by decide) (by decide) (by decide) (nI_pos (by omega)) (by decide) (by decide) (by rw [nI_clamp (by omega)]; show _ + 6 ≤ 736; omega) (Nat.le_of_ble_eq_true rfl) dX3_writeTo_59 rfl ?_
  refine V_rwI ((cp_up (s := 0) (e := q + 14) (k := 6) (by decide) rfl (nI_clamp (by omega)) rfl).trans (by rw [← e3])) ?_
  refine V_aload_n 63 1 rfl _ rfl rfl dX3_writeTo_62 rfl ?_
  refine V_getR 66 18 3 3 22 (hRK 18 3 (by decide) (by decide) (by decide)) flX3_21 rfl rfl rfl (by decide) dX3_writeTo_63 rfl ?_
  refine V_iconst 67 (0) rfl dX3_writeTo_66 rfl ?_
  refine V_aload_n 68 2 rfl _ rfl rfl dX3_writeTo_67 rfl ?_
  refine V_iload_n 69 0 rfl rfl dX3_writeTo_68 rfl ?_
  refine V_bipush 71 (18) rfl dX3_writeTo_69 rfl ?_
  refine V_iadd 72 dX3_writeTo_71 rfl ?_
  refine V_rw (show _ = nI (q + 20) from by rw [show ((18 : Int32)) = nI 18 from rfl, nI_add]) ?_
  refine V_bipush 74 (6) rfl dX3_writeTo_72 rfl ?_
  refine V_copy 77 22 40 6 736 lkX3_48 rfl rfl (by decide) (by decide) (by decide) (nI_pos (by omega)) (by decide) (by decide) (by rw [nI_clamp (by omega)]; show _ + 6 ≤ 736; omega) (Nat.le_of_ble_eq_true rfl) dX3_writeTo_74 rfl ?_
  refine V_rwI ((cp_up (s := 0) (e := q + 20) (k := 6) (by decide) rfl (nI_clamp (by omega)) rfl).trans (by rw [← e4])) ?_
  refine V_aload_n 78 1 rfl _ rfl rfl dX3_writeTo_77 rfl ?_
  refine V_getR 81 18 3 4 23 (hRK 18 4 (by decide) (by decide) (by decide)) flX3_24 rfl rfl rfl (by decide) dX3_writeTo_78 rfl ?_
  refine V_iconst 82 (0) rfl dX3_writeTo_81 rfl ?_
  refine V_aload_n 83 2 rfl _ rfl rfl dX3_writeTo_82 rfl ?_
  refine V_iload_n 84 0 rfl rfl dX3_writeTo_83 rfl ?_
  refine V_bipush 86 (24) rfl dX3_writeTo_84 rfl ?_
  refine V_iadd 87 dX3_writeTo_86 rfl ?_
  refine V_rw (show _ = nI (q + 26) from by rw [show ((24 : Int32)) = nI 24 from rfl, nI_add]) ?_
  refine V_bipush 89 (6) rfl dX3_writeTo_87 rfl ?_
  refine V_copy 92 23 40 6 736 lkX3_48 rfl rfl (by decide) (by decide) (by decide) (nI_pos (by omega)) (by decide) (by decide) (by rw [nI_clamp (by omega)]; show _ + 6 ≤ 736; omega) (Nat.le_of_ble_eq_true rfl) dX3_writeTo_89 rfl ?_
  refine V_rwI ((cp_up (s := 0) (e := q + 26) (k := 6) (by decide) rfl (nI_clamp (by omega)) rfl).trans (by rw [← e5])) ?_
  refine V_aload_n 93 1 rfl _ rfl rfl dX3_writeTo_92 rfl ?_
  refine V_getR 96 18 3 5 24 (hRK 18 5 (by decide) (by decide) (by decide)) flX3_27 rfl rfl rfl (by decide) dX3_writeTo_93 rfl ?_
  refine V_iconst 97 (0) rfl dX3_writeTo_96 rfl ?_
  refine V_aload_n 98 2 rfl _ rfl rfl dX3_writeTo_97 rfl ?_
  refine V_iload_n 99 0 rfl rfl dX3_writeTo_98 rfl ?_
  refine V_bipush 101 (30) rfl dX3_writeTo_99 rfl ?_
  refine V_iadd 102 dX3_writeTo_101 rfl ?_
  refine V_rw (show _ = nI (q + 32) from by rw [show ((30 : Int32)) = nI 30 from rfl, nI_add]) ?_
  refine V_bipush 104 (8) rfl dX3_writeTo_102 rfl ?_
  refine V_copy 107 24 40 8 736 lkX3_48 rfl rfl (by decide) (by decide) (by decide) (nI_pos (by omega)) (by decide) (by decide) (by rw [nI_clamp (by omega)]; show _ + 8 ≤ 736; omega) (Nat.le_of_ble_eq_true rfl) dX3_writeTo_104 rfl ?_
  refine V_rwI ((cp_up (s := 0) (e := q + 32) (k := 8) (by decide) rfl (nI_clamp (by omega)) rfl).trans (by rw [← e6])) ?_
  refine V_aload_n 108 1 rfl _ rfl rfl dX3_writeTo_107 rfl ?_
  refine V_getR 111 18 3 6 25 (hRK 18 6 (by decide) (by decide) (by decide)) flX3_30 rfl rfl rfl (by decide) dX3_writeTo_108 rfl ?_
  refine V_iconst 112 (0) rfl dX3_writeTo_111 rfl ?_
  refine V_aload_n 113 2 rfl _ rfl rfl dX3_writeTo_112 rfl ?_
  refine V_iload_n 114 0 rfl rfl dX3_writeTo_113 rfl ?_
  refine V_bipush 116 (30) rfl dX3_writeTo_114 rfl ?_
  refine V_iadd 117 dX3_writeTo_116 rfl ?_
  refine V_rw (show _ = nI (q + 32) from by rw [show ((30 : Int32)) = nI 30 from rfl, nI_add]) ?_
  refine V_bipush 119 (8) rfl dX3_writeTo_117 rfl ?_
  refine V_iadd 120 dX3_writeTo_119 rfl ?_
  refine V_rw (show _ = nI (q + 40) from by rw [show ((8 : Int32)) = nI 8 from rfl, nI_add]) ?_
  refine V_bipush 122 (6) rfl dX3_writeTo_120 rfl ?_
  refine V_copy 125 25 40 6 736 lkX3_48 rfl rfl (by decide) (by decide) (by decide) (nI_pos (by omega)) (by decide) (by decide) (by rw [nI_clamp (by omega)]; show _ + 6 ≤ 736; omega) (Nat.le_of_ble_eq_true rfl) dX3_writeTo_122 rfl ?_
  refine V_rwI ((cp_up (s := 0) (e := q + 40) (k := 6) (by decide) rfl (nI_clamp (by omega)) rfl).trans (by rw [← e7])) ?_
  refine V_ret_v rfl (Nat.le_of_ble_eq_true rfl) (fun h => absurd h (by decide)) (Nat.le_of_ble_eq_true rfl) (hq g7 hrow hout) dX3_writeTo_125
theorem c_X3_readFrom_40 {G : Gx} {d : Nat} {I : FI} {R : FR} {J : FJ} {Q : Po} (hRK : RK R) {D : DV} {q : Nat} (hr : RowC (I 40) q D) (hq46 : q + 46 ≤ 736) (hq : ∀ I', DayC I' 18 D → FrC I I' 18 → Q (.inl none) 103 I' R J) : Cc G mX3_readFrom d 0 0 [rf G 18, rf G 40, .int (nI q)] 103 I R J Q := by
  obtain ⟨h1, h2, h3, h4, h5, h6, h7, h8, h9⟩ := hr
  obtain ⟨B0, e0⟩ : ∃ B0, B0 = up2 (up2 I 18 7 (D 50)) 18 8 (livB D 6) := ⟨_, rfl⟩
  obtain ⟨B1, e1⟩ : ∃ B1, B1 = upA B0 19 (va_cpy (B0 40) (B0 19) (q + 2) 0 6) := ⟨_, rfl⟩
  obtain ⟨B2, e2⟩ : ∃ B2, B2 = upA B1 20 (va_cpy (B1 40) (B1 20) (q + 8) 0 6) := ⟨_, rfl⟩
  obtain ⟨B3, e3⟩ : ∃ B3, B3 = upA B2 21 (va_cpy (B2 40) (B2 21) (q + 14) 0 6) := ⟨_, rfl⟩
  obtain ⟨B4, e4⟩ : ∃ B4, B4 = upA B3 22 (va_cpy (B3 40) (B3 22) (q + 20) 0 6) := ⟨_, rfl⟩
  obtain ⟨B5, e5⟩ : ∃ B5, B5 = upA B4 23 (va_cpy (B4 40) (B4 23) (q + 26) 0 6) := ⟨_, rfl⟩
  obtain ⟨B6, e6⟩ : ∃ B6, B6 = upA B5 24 (va_cpy (B5 40) (B5 24) (q + 32) 0 8) := ⟨_, rfl⟩
  obtain ⟨B7, e7⟩ : ∃ B7, B7 = upA B6 25 (va_cpy (B6 40) (B6 25) (q + 40) 0 6) := ⟨_, rfl⟩
  have z0 : B0 40 = I 40 := by rw [e0, up2_n _ _ _ (by decide), up2_n _ _ _ (by decide)]
  have z1 : B1 40 = I 40 := by rw [e1, upA_n (by decide), e0, up2_n _ _ _ (by decide), up2_n _ _ _ (by decide)]
  have z2 : B2 40 = I 40 := by rw [e2, upA_n (by decide), e1, upA_n (by decide), e0, up2_n _ _ _ (by decide), up2_n _ _ _ (by decide)]
  have z3 : B3 40 = I 40 := by rw [e3, upA_n (by decide), e2, upA_n (by decide), e1, upA_n (by decide), e0, up2_n _ _ _ (by decide), up2_n _ _ _ (by decide)]
  have z4 : B4 40 = I 40 := by rw [e4, upA_n (by decide), e3, upA_n (by decide), e2, upA_n (by decide), e1, upA_n (by decide), e0, up2_n _ _ _ (by decide), up2_n _ _ _ (by decide)]
  have z5 : B5 40 = I 40 := by rw [e5, upA_n (by decide), e4, upA_n (by decide), e3, upA_n (by decide), e2, upA_n (by decide), e1, upA_n (by decide), e0, up2_n _ _ _ (by decide), up2_n _ _ _ (by decide)]
  have z6 : B6 40 = I 40 := by rw [e6, upA_n (by decide), e5, upA_n (by decide), e4, upA_n (by decide), e3, upA_n (by decide), e2, upA_n (by decide), e1, upA_n (by decide), e0, up2_n _ _ _ (by decide), up2_n _ _ _ (by decide)]
  have z7 : B7 40 = I 40 := by rw [e7, upA_n (by decide), e6, upA_n (by decide), e5, upA_n (by decide), e4, upA_n (by decide), e3, upA_n (by decide), e2, upA_n (by decide), e1, upA_n (by decide), e0, up2_n _ _ _ (by decide), up2_n _ _ _ (by decide)]
  have hD : DayC B7 18 D := by
    refine ⟨fun m hm => ?_, fun m hm => ?_, fun m hm => ?_, fun m hm => ?_, fun m hm => ?_, fun m hm => ?_, fun m hm => ?_, ?_, ?_⟩
    · rw [e7, upA_n (by decide), e6, upA_n (by decide), e5, upA_n (by decide), e4, upA_n (by decide), e3, upA_n (by decide), e2, upA_n (by decide), e1, upA_s, cpy_in (Nat.zero_le _) (by omega), z0, show q + 2 + (m - 0) = q + 2 + m by omega]; exact h3 m hm
    · rw [e7, upA_n (by decide), e6, upA_n (by decide), e5, upA_n (by decide), e4, upA_n (by decide), e3, upA_n (by decide), e2, upA_s, cpy_in (Nat.zero_le _) (by omega), z1, show q + 8 + (m - 0) = q + 8 + m by omega]; exact h4 m hm
    · rw [e7, upA_n (by decide), e6, upA_n (by decide), e5, upA_n (by decide), e4, upA_n (by decide), e3, upA_s, cpy_in (Nat.zero_le _) (by omega), z2, show q + 14 + (m - 0) = q + 14 + m by omega]; exact h5 m hm
    · rw [e7, upA_n (by decide), e6, upA_n (by decide), e5, upA_n (by decide), e4, upA_s, cpy_in (Nat.zero_le _) (by omega), z3, show q + 20 + (m - 0) = q + 20 + m by omega]; exact h6 m hm
    · rw [e7, upA_n (by decide), e6, upA_n (by decide), e5, upA_s, cpy_in (Nat.zero_le _) (by omega), z4, show q + 26 + (m - 0) = q + 26 + m by omega]; exact h7 m hm
    · rw [e7, upA_n (by decide), e6, upA_s, cpy_in (Nat.zero_le _) (by omega), z5, show q + 32 + (m - 0) = q + 32 + m by omega]; exact h8 m hm
    · rw [e7, upA_s, cpy_in (Nat.zero_le _) (by omega), z6, show q + 40 + (m - 0) = q + 40 + m by omega]; exact h9 m hm
    · rw [e7, upA_n (by decide), e6, upA_n (by decide), e5, upA_n (by decide), e4, upA_n (by decide), e3, upA_n (by decide), e2, upA_n (by decide), e1, upA_n (by decide), e0, up2_s, upd_n (by decide), up2_s]; exact upd_s
    · rw [e7, upA_n (by decide), e6, upA_n (by decide), e5, upA_n (by decide), e4, upA_n (by decide), e3, upA_n (by decide), e2, upA_n (by decide), e1, upA_n (by decide), e0, up2_s]; exact upd_s
  have hF : FrC I B7 18 := fun x hx => by rw [e7, upA_n (by omega), e6, upA_n (by omega), e5, upA_n (by omega), e4, upA_n (by omega), e3, upA_n (by omega), e2, upA_n (by omega), e1, upA_n (by omega), e0, up2_n _ _ _ (by omega), up2_n _ _ _ (by omega)]
  show V _ _ _ _ _ _ _ _ [(0, rf G 18), (1, rf G 40), (2, .int (nI q))] [] _ _ _ _ _
  refine V_aload_n 1 0 rfl _ rfl rfl dX3_readFrom_0 rfl ?_
  refine V_aload_n 2 1 rfl _ rfl rfl dX3_readFrom_1 rfl ?_
  refine V_iload_n 3 2 rfl rfl dX3_readFrom_2 rfl ?_
  refine V_ialdN 4 40 736 q (D 50) h1 (by omega) (by decide) rfl (by decide) dX3_readFrom_3 rfl ?_
  refine V_putI 7 18 3 7 flX3_54 rfl rfl rfl (by decide) rfl dX3_readFrom_4 rfl ?_
  refine V_aload_n 8 0 rfl _ rfl rfl dX3_readFrom_7 rfl ?_
  refine V_aload_n 9 1 rfl _ rfl rfl dX3_readFrom_8 rfl ?_
  refine V_iload_n 10 2 rfl rfl dX3_readFrom_9 rfl ?_
  refine V_iconst 11 (1) rfl dX3_readFrom_10 rfl ?_
  refine V_iadd 12 dX3_readFrom_11 rfl ?_
  refine V_rw (show _ = nI (q + 1) from by rw [show ((1 : Int32)) = nI 1 from rfl, nI_add]) ?_
  refine V_ialdN 13 40 736 (q + 1) (livB D 6) (by rw [up2_n _ _ _ (by decide)]; exact h2) (by omega) (by decide) rfl (by decide) dX3_readFrom_12 rfl ?_
  refine V_putI 16 18 3 8 flX3_60 rfl rfl rfl (by decide) rfl dX3_readFrom_13 rfl ?_
  rw [← e0]
  refine V_iload_n 17 2 rfl rfl dX3_readFrom_16 rfl ?_
  refine V_iconst 18 (2) rfl dX3_readFrom_17 rfl ?_
  refine V_iadd 19 dX3_readFrom_18 rfl ?_
  refine V_rw (show _ = nI (q + 2) from by rw [show ((2 : Int32)) = nI 2 from rfl, nI_add]) ?_
  refine V_istore_n 20 [(3, .int (nI (q + 2))), (0, rf G 18), (1, rf G 40), (2, .int (nI q))] (by decide) rfl rfl dX3_readFrom_19 rfl ?_
  refine V_aload_n 21 2 rfl _ rfl rfl dX3_readFrom_20 rfl ?_
  refine V_iload_n 22 0 rfl rfl dX3_readFrom_21 rfl ?_
  refine V_aload_n 23 1 rfl _ rfl rfl dX3_readFrom_22 rfl ?_
  refine V_getR 26 18 3 0 19 (hRK 18 0 (by decide) (by decide) (by decide)) flX3_9 rfl rfl rfl (by decide) dX3_readFrom_23 rfl ?_
  refine V_iconst 27 (0) rfl dX3_readFrom_26 rfl ?_
  refine V_bipush 29 (6) rfl dX3_readFrom_27 rfl ?_
  refine V_copy 32 40 19 736 6 lkX3_48 rfl rfl (by decide) (by decide) (nI_pos (by omega)) (by decide) (by decide) (by rw [nI_clamp (by omega)]; show _ + 6 ≤ 736; omega) (by decide) (Nat.le_of_ble_eq_true rfl) dX3_readFrom_29 rfl ?_
  refine V_rwI (show _ = B1 from by rw [e1, nI_clamp (by omega)]; rfl) ?_
  refine V_aload_n 33 2 rfl _ rfl rfl dX3_readFrom_32 rfl ?_
  refine V_iload_n 34 0 rfl rfl dX3_readFrom_33 rfl ?_
  refine V_bipush 36 (6) rfl dX3_readFrom_34 rfl ?_
  refine V_iadd 37 dX3_readFrom_36 rfl ?_
  refine V_rw (show _ = nI (q + 8) from by rw [show ((6 : Int32)) = nI 6 from rfl, nI_add]) ?_
  refine V_aload_n 38 1 rfl _ rfl rfl dX3_readFrom_37 rfl ?_
  refine V_getR 41 18 3 1 20 (hRK 18 1 (by decide) (by decide) (by decide)) flX3_15 rfl rfl rfl (by decide) dX3_readFrom_38 rfl ?_
  refine V_iconst 42 (0) rfl dX3_readFrom_41 rfl ?_
  refine V_bipush 44 (6) rfl dX3_readFrom_42 rfl ?_
  refine V_copy 47 40 20 736 6 lkX3_48 rfl rfl (by decide) (by decide) (nI_pos (by omega)) (by decide) (by decide) (by rw [nI_clamp (by omega)]; show _ + 6 ≤ 736; omega) (by decide) (Nat.le_of_ble_eq_true rfl) dX3_readFrom_44 rfl ?_
  refine V_rwI (show _ = B2 from by rw [e2, nI_clamp (by omega)]; rfl) ?_
  refine V_aload_n 48 2 rfl _ rfl rfl dX3_readFrom_47 rfl ?_
  refine V_iload_n 49 0 rfl rfl dX3_readFrom_48 rfl ?_
  refine V_bipush 51 (12) rfl dX3_readFrom_49 rfl ?_
  refine V_iadd 52 dX3_readFrom_51 rfl ?_
  refine V_rw (show _ = nI (q + 14) from by rw [show ((12 : Int32)) = nI 12 from rfl, nI_add]) ?_
  refine V_aload_n 53 1 rfl _ rfl rfl dX3_readFrom_52 rfl ?_
  refine V_getR 56 18 3 2 21 (hRK 18 2 (by decide) (by decide) (by decide)) flX3_18 rfl rfl rfl (by decide) dX3_readFrom_53 rfl ?_
  refine V_iconst 57 (0) rfl dX3_readFrom_56 rfl ?_
  refine V_bipush 59 (6) rfl dX3_readFrom_57 rfl ?_
  refine V_copy 62 40 21 736 6 lkX3_48 rfl rfl (by decide) (by decide) (nI_pos (by omega)) (by decide) (by decide) (by rw [nI_clamp (by omega)]; show _ + 6 ≤ 736; omega) (by decide) (Nat.le_of_ble_eq_true rfl) dX3_readFrom_59 rfl ?_
  refine V_rwI (show _ = B3 from by rw [e3, nI_clamp (by omega)]; rfl) ?_
  refine V_aload_n 63 2 rfl _ rfl rfl dX3_readFrom_62 rfl ?_
  refine V_iload_n 64 0 rfl rfl dX3_readFrom_63 rfl ?_
  refine V_bipush 66 (18) rfl dX3_readFrom_64 rfl ?_
  refine V_iadd 67 dX3_readFrom_66 rfl ?_
  refine V_rw (show _ = nI (q + 20) from by rw [show ((18 : Int32)) = nI 18 from rfl, nI_add]) ?_
  refine V_aload_n 68 1 rfl _ rfl rfl dX3_readFrom_67 rfl ?_
  refine V_getR 71 18 3 3 22 (hRK 18 3 (by decide) (by decide) (by decide)) flX3_21 rfl rfl rfl (by decide) dX3_readFrom_68 rfl ?_
  refine V_iconst 72 (0) rfl dX3_readFrom_71 rfl ?_
  refine V_bipush 74 (6) rfl dX3_readFrom_72 rfl ?_
  refine V_copy 77 40 22 736 6 lkX3_48 rfl rfl (by decide) (by decide) (nI_pos (by omega)) (by decide) (by decide) (by rw [nI_clamp (by omega)]; show _ + 6 ≤ 736; omega) (by decide) (Nat.le_of_ble_eq_true rfl) dX3_readFrom_74 rfl ?_
  refine V_rwI (show _ = B4 from by rw [e4, nI_clamp (by omega)]; rfl) ?_
  refine V_aload_n 78 2 rfl _ rfl rfl dX3_readFrom_77 rfl ?_
  refine V_iload_n 79 0 rfl rfl dX3_readFrom_78 rfl ?_
  refine V_bipush 81 (24) rfl dX3_readFrom_79 rfl ?_
  refine V_iadd 82 dX3_readFrom_81 rfl ?_
  refine V_rw (show _ = nI (q + 26) from by rw [show ((24 : Int32)) = nI 24 from rfl, nI_add]) ?_
  refine V_aload_n 83 1 rfl _ rfl rfl dX3_readFrom_82 rfl ?_
  refine V_getR 86 18 3 4 23 (hRK 18 4 (by decide) (by decide) (by decide)) flX3_24 rfl rfl rfl (by decide) dX3_readFrom_83 rfl ?_
  refine V_iconst 87 (0) rfl dX3_readFrom_86 rfl ?_
  refine V_bipush 89 (6) rfl dX3_readFrom_87 rfl ?_
  refine V_copy 92 40 23 736 6 lkX3_48 rfl rfl (by decide) (by decide) (nI_pos (by omega)) (by decide) (by decide) (by rw [nI_clamp (by omega)]; show _ + 6 ≤ 736; omega) (by decide) (Nat.le_of_ble_eq_true rfl) dX3_readFrom_89 rfl ?_
  refine V_rwI (show _ = B5 from by rw [e5, nI_clamp (by omega)]; rfl) ?_
  refine V_aload_n 93 2 rfl _ rfl rfl dX3_readFrom_92 rfl ?_
  refine V_iload_n 94 0 rfl rfl dX3_readFrom_93 rfl ?_
  refine V_bipush 96 (30) rfl dX3_readFrom_94 rfl ?_
  refine V_iadd 97 dX3_readFrom_96 rfl ?_
  refine V_rw (show _ = nI (q + 32) from by rw [show ((30 : Int32)) = nI 30 from rfl, nI_add]) ?_
  refine V_aload_n 98 1 rfl _ rfl rfl dX3_readFrom_97 rfl ?_
  refine V_getR 101 18 3 5 24 (hRK 18 5 (by decide) (by decide) (by decide)) flX3_27 rfl rfl rfl (by decide) dX3_readFrom_98 rfl ?_
  refine V_iconst 102 (0) rfl dX3_readFrom_101 rfl ?_
  refine V_bipush 104 (8) rfl dX3_readFrom_102 rfl ?_
  refine V_copy 107 40 24 736 8 lkX3_48 rfl rfl (by decide) (by decide) (nI_pos (by omega)) (by decide) (by decide) (by rw [nI_clamp (by omega)]; show _ + 8 ≤ 736; omega) (by decide) (Nat.le_of_ble_eq_true rfl) dX3_readFrom_104 rfl ?_
  refine V_rwI (show _ = B6 from by rw [e6, nI_clamp (by omega)]; rfl) ?_
  refine V_aload_n 108 2 rfl _ rfl rfl dX3_readFrom_107 rfl ?_
  refine V_iload_n 109 0 rfl rfl dX3_readFrom_108 rfl ?_
  refine V_bipush 111 (30) rfl dX3_readFrom_109 rfl ?_
  refine V_iadd 112 dX3_readFrom_111 rfl ?_
  refine V_rw (show _ = nI (q + 32) from by rw [show ((30 : Int32)) = nI 30 from rfl, nI_add]) ?_
  refine V_bipush 114 (8) rfl dX3_readFrom_112 rfl ?_
  refine V_iadd 115 dX3_readFrom_114 rfl ?_
  refine V_rw (show _ = nI (q + 40) from by rw [show ((8 : Int32)) = nI 8 from rfl, nI_add]) ?_
  refine V_aload_n 116 1 rfl _ rfl rfl dX3_readFrom_115 rfl ?_
  refine V_getR 119 18 3 6 25 (hRK 18 6 (by decide) (by decide) (by decide)) flX3_30 rfl rfl rfl (by decide) dX3_readFrom_116 rfl ?_
  refine V_iconst 120 (0) rfl dX3_readFrom_119 rfl ?_
  refine V_bipush 122 (6) rfl dX3_readFrom_120 rfl ?_
  refine V_copy 125 40 25 736 6 lkX3_48 rfl rfl (by decide) (by decide) (nI_pos (by omega)) (by decide) (by decide) (by rw [nI_clamp (by omega)]; show _ + 6 ≤ 736; omega) (by decide) (Nat.le_of_ble_eq_true rfl) dX3_readFrom_122 rfl ?_
  refine V_rwI (show _ = B7 from by rw [e7, nI_clamp (by omega)]; rfl) ?_
  refine V_ret_v rfl (Nat.le_of_ble_eq_true rfl) (fun h => absurd h (by decide)) (Nat.le_of_ble_eq_true rfl) (hq B7 hD hF) dX3_readFrom_125
theorem c_X3_writeTo_41 {G : Gx} {d : Nat} {I : FI} {R : FR} {J : FJ} {Q : Po} (hRK : RK R) {D : DV} (hD : DayC I 18 D) {q : Nat} (hq46 : q + 46 ≤ 2346) (hq : ∀ g : DV, RowC g q D → (∀ j, (j < q ∨ q + 46 ≤ j) → g j = I 41 j) → Q (.inl none) 103 (upA I 41 g) R J) : Cc G mX3_writeTo d 0 0 [rf G 18, rf G 41, .int (nI q)] 103 I R J Q := by
  obtain ⟨g0, e0⟩ : ∃ g0, g0 = upd (upd (I 41) q (D 50)) (q + 1) (livB D 6) := ⟨_, rfl⟩
  obtain ⟨g1, e1⟩ : ∃ g1, g1 = va_cpy (I 19) g0 0 (q + 2) 6 := ⟨_, rfl⟩
  obtain ⟨g2, e2⟩ : ∃ g2, g2 = va_cpy (I 20) g1 0 (q + 8) 6 := ⟨_, rfl⟩
  obtain ⟨g3, e3⟩ : ∃ g3, g3 = va_cpy (I 21) g2 0 (q + 14) 6 := ⟨_, rfl⟩
  obtain ⟨g4, e4⟩ : ∃ g4, g4 = va_cpy (I 22) g3 0 (q + 20) 6 := ⟨_, rfl⟩
  obtain ⟨g5, e5⟩ : ∃ g5, g5 = va_cpy (I 23) g4 0 (q + 26) 6 := ⟨_, rfl⟩
  obtain ⟨g6, e6⟩ : ∃ g6, g6 = va_cpy (I 24) g5 0 (q + 32) 8 := ⟨_, rfl⟩
  obtain ⟨g7, e7⟩ : ∃ g7, g7 = va_cpy (I 25) g6 0 (q + 40) 6 := ⟨_, rfl⟩
  obtain ⟨h1, h2, h3, h4, h5, h6, h7, h8, h9⟩ := hD
  have hrow : RowC g7 q D := by
    refine ⟨?_, ?_, fun m hm => ?_, fun m hm => ?_, fun m hm => ?_, fun m hm => ?_, fun m hm => ?_, fun m hm => ?_, fun m hm => ?_⟩
    · rw [e7, cpy_out (by omega), e6, cpy_out (by omega), e5, cpy_out (by omega), e4, cpy_out (by omega), e3, cpy_out (by omega), e2, cpy_out (by omega), e1, cpy_out (by omega), e0, upd_n (by omega), upd_s]
    · rw [e7, cpy_out (by omega), e6, cpy_out (by omega), e5, cpy_out (by omega), e4, cpy_out (by omega), e3, cpy_out (by omega), e2, cpy_out (by omega), e1, cpy_out (by omega), e0, upd_s]
    · rw [e7, cpy_out (by omega), e6, cpy_out (by omega), e5, cpy_out (by omega), e4, cpy_out (by omega), e3, cpy_out (by omega), e2, cpy_out (by omega), e1, cpy_in (by omega) (by omega), show 0 + (q + 2 + m - (q + 2)) = m by omega]; exact h1 m hm
    · rw [e7, cpy_out (by omega), e6, cpy_out (by omega), e5, cpy_out (by omega), e4, cpy_out (by omega), e3, cpy_out (by omega), e2, cpy_in (by omega) (by omega), show 0 + (q + 8 + m - (q + 8)) = m by omega]; exact h2 m hm
    · rw [e7, cpy_out (by omega), e6, cpy_out (by omega), e5, cpy_out (by omega), e4, cpy_out (by omega), e3, cpy_in (by omega) (by omega), show 0 + (q + 14 + m - (q + 14)) = m by omega]; exact h3 m hm
    · rw [e7, cpy_out (by omega), e6, cpy_out (by omega), e5, cpy_out (by omega), e4, cpy_in (by omega) (by omega), show 0 + (q + 20 + m - (q + 20)) = m by omega]; exact h4 m hm
    · rw [e7, cpy_out (by omega), e6, cpy_out (by omega), e5, cpy_in (by omega) (by omega), show 0 + (q + 26 + m - (q + 26)) = m by omega]; exact h5 m hm
    · rw [e7, cpy_out (by omega), e6, cpy_in (by omega) (by omega), show 0 + (q + 32 + m - (q + 32)) = m by omega]; exact h6 m hm
    · rw [e7, cpy_in (by omega) (by omega), show 0 + (q + 40 + m - (q + 40)) = m by omega]; exact h7 m hm
  have hout : ∀ j, (j < q ∨ q + 46 ≤ j) → g7 j = I 41 j := fun j hj => by rw [e7, cpy_out (by omega), e6, cpy_out (by omega), e5, cpy_out (by omega), e4, cpy_out (by omega), e3, cpy_out (by omega), e2, cpy_out (by omega), e1, cpy_out (by omega), e0, upd_n (by omega), upd_n (by omega)]
  have s0 : up2 (up2 I 41 q (D 50)) 41 (q + 1) (livB D 6) = upA I 41 g0 := by rw [e0]; funext o; unfold up2 upA; by_cases h : o = 41 <;> simp [h]
  show V _ _ _ _ _ _ _ _ [(0, rf G 18), (1, rf G 41), (2, .int (nI q))] [] _ _ _ _ _
  refine V_aload_n 1 1 rfl _ rfl rfl dX3_writeTo_0 rfl ?_
  refine V_iload_n 2 2 rfl rfl dX3_writeTo_1 rfl ?_
  refine V_aload_n 3 0 rfl _ rfl rfl dX3_writeTo_2 rfl ?_
  refine V_getI 6 18 3 7 (D 50) h8 flX3_54 rfl rfl rfl (by decide) dX3_writeTo_3 rfl ?_
  refine V_iastN 7 41 2346 q (by omega) (by decide) rfl (by decide) dX3_writeTo_6 rfl ?_
  refine V_aload_n 8 1 rfl _ rfl rfl dX3_writeTo_7 rfl ?_
  refine V_iload_n 9 2 rfl rfl dX3_writeTo_8 rfl ?_
  refine V_iconst 10 (1) rfl dX3_writeTo_9 rfl ?_
  refine V_iadd 11 dX3_writeTo_10 rfl ?_
  refine V_rw (nI_add q 1) ?_
  refine V_aload_n 12 0 rfl _ rfl rfl dX3_writeTo_11 rfl ?_
  refine V_getI 15 18 3 8 (livB D 6) (by rw [up2_n _ _ _ (by decide)]; exact h9) flX3_60 rfl rfl rfl (by decide) dX3_writeTo_12 rfl ?_
  refine V_iastN 16 41 2346 (q + 1) (by omega) (by decide) rfl (by decide) dX3_writeTo_15 rfl ?_
  refine V_rwI s0 ?_
  refine V_iload_n 17 2 rfl rfl dX3_writeTo_16 rfl ?_
  refine V_iconst 18 (2) rfl dX3_writeTo_17 rfl ?_
  refine V_iadd 19 dX3_writeTo_18 rfl ?_
  refine V_rw (show _ = nI (q + 2) from by rw [show ((2 : Int32)) = nI 2 from rfl, nI_add]) ?_
  refine V_istore_n 20 [(3, .int (nI (q + 2))), (0, rf G 18), (1, rf G 41), (2, .int (nI q))] (by decide) rfl rfl dX3_writeTo_19 rfl ?_
  refine V_aload_n 21 1 rfl _ rfl rfl dX3_writeTo_20 rfl ?_
  refine V_getR 24 18 3 0 19 (hRK 18 0 (by decide) (by decide) (by decide)) flX3_9 rfl rfl rfl (by decide) dX3_writeTo_21 rfl ?_
  refine V_iconst 25 (0) rfl dX3_writeTo_24 rfl ?_
  refine V_aload_n 26 2 rfl _ rfl rfl dX3_writeTo_25 rfl ?_
  refine V_iload_n 27 0 rfl rfl dX3_writeTo_26 rfl ?_
  refine V_bipush 29 (6) rfl dX3_writeTo_27 rfl ?_
  refine V_copy 32 19 41 6 2346 lkX3_48 rfl rfl (by decide) (by decide) (by decide) (nI_pos (by omega)) (by decide) (by decide) (by rw [nI_clamp (by omega)]; show _ + 6 ≤ 2346; omega) (Nat.le_of_ble_eq_true rfl) dX3_writeTo_29 rfl ?_
  refine V_rwI ((cp_up (s := 0) (e := q + 2) (k := 6) (by decide) rfl (nI_clamp (by omega)) rfl).trans (by rw [← e1])) ?_
  refine V_aload_n 33 1 rfl _ rfl rfl dX3_writeTo_32 rfl ?_
  refine V_getR 36 18 3 1 20 (hRK 18 1 (by decide) (by decide) (by decide)) flX3_15 rfl rfl rfl (by decide) dX3_writeTo_33 rfl ?_
  refine V_iconst 37 (0) rfl dX3_writeTo_36 rfl ?_
  refine V_aload_n 38 2 rfl _ rfl rfl dX3_writeTo_37 rfl ?_
  refine V_iload_n 39 0 rfl rfl dX3_writeTo_38 rfl ?_
  refine V_bipush 41 (6) rfl dX3_writeTo_39 rfl ?_
  refine V_iadd 42 dX3_writeTo_41 rfl ?_
  refine V_rw (show _ = nI (q + 8) from by rw [show ((6 : Int32)) = nI 6 from rfl, nI_add]) ?_
  refine V_bipush 44 (6) rfl dX3_writeTo_42 rfl ?_
  refine V_copy 47 20 41 6 2346 lkX3_48 rfl rfl (by decide) (by decide) (by decide) (nI_pos (by omega)) (by decide) (by decide) (by rw [nI_clamp (by omega)]; show _ + 6 ≤ 2346; omega) (Nat.le_of_ble_eq_true rfl) dX3_writeTo_44 rfl ?_
  refine V_rwI ((cp_up (s := 0) (e := q + 8) (k := 6) (by decide) rfl (nI_clamp (by omega)) rfl).trans (by rw [← e2])) ?_
  refine V_aload_n 48 1 rfl _ rfl rfl dX3_writeTo_47 rfl ?_
  refine V_getR 51 18 3 2 21 (hRK 18 2 (by decide) (by decide) (by decide)) flX3_18 rfl rfl rfl (by decide) dX3_writeTo_48 rfl ?_
  refine V_iconst 52 (0) rfl dX3_writeTo_51 rfl ?_
  refine V_aload_n 53 2 rfl _ rfl rfl dX3_writeTo_52 rfl ?_
  refine V_iload_n 54 0 rfl rfl dX3_writeTo_53 rfl ?_
  refine V_bipush 56 (12) rfl dX3_writeTo_54 rfl ?_
  refine V_iadd 57 dX3_writeTo_56 rfl ?_
  refine V_rw (show _ = nI (q + 14) from by rw [show ((12 : Int32)) = nI 12 from rfl, nI_add]) ?_
  refine V_bipush 59 (6) rfl dX3_writeTo_57 rfl ?_
  refine V_copy 62 21 41 6 2346 lkX3_48 rfl rfl (by decide) (by decide) (by decide) (nI_pos (by omega)) (by decide) (by decide) (by rw [nI_clamp (by omega)]; show _ + 6 ≤ 2346; omega) (Nat.le_of_ble_eq_true rfl) dX3_writeTo_59 rfl ?_
  refine V_rwI ((cp_up (s := 0) (e := q + 14) (k := 6) (by decide) rfl (nI_clamp (by omega)) rfl).trans (by rw [← e3])) ?_
  refine V_aload_n 63 1 rfl _ rfl rfl dX3_writeTo_62 rfl ?_
  refine V_getR 66 18 3 3 22 (hRK 18 3 (by decide) (by decide) (by decide)) flX3_21 rfl rfl rfl (by decide) dX3_writeTo_63 rfl ?_
  refine V_iconst 67 (0) rfl dX3_writeTo_66 rfl ?_
  refine V_aload_n 68 2 rfl _ rfl rfl dX3_writeTo_67 rfl ?_
  refine V_iload_n 69 0 rfl rfl dX3_writeTo_68 rfl ?_
  refine V_bipush 71 (18) rfl dX3_writeTo_69 rfl ?_
  refine V_iadd 72 dX3_writeTo_71 rfl ?_
  refine V_rw (show _ = nI (q + 20) from by rw [show ((18 : Int32)) = nI 18 from rfl, nI_add]) ?_
  refine V_bipush 74 (6) rfl dX3_writeTo_72 rfl ?_
  refine V_copy 77 22 41 6 2346 lkX3_48 rfl rfl (by decide) (by decide) (by decide) (nI_pos (by omega)) (by decide) (by decide) (by rw [nI_clamp (by omega)]; show _ + 6 ≤ 2346; omega) (Nat.le_of_ble_eq_true rfl) dX3_writeTo_74 rfl ?_
  refine V_rwI ((cp_up (s := 0) (e := q + 20) (k := 6) (by decide) rfl (nI_clamp (by omega)) rfl).trans (by rw [← e4])) ?_
  refine V_aload_n 78 1 rfl _ rfl rfl dX3_writeTo_77 rfl ?_
  refine V_getR 81 18 3 4 23 (hRK 18 4 (by decide) (by decide) (by decide)) flX3_24 rfl rfl rfl (by decide) dX3_writeTo_78 rfl ?_
  refine V_iconst 82 (0) rfl dX3_writeTo_81 rfl ?_
  refine V_aload_n 83 2 rfl _ rfl rfl dX3_writeTo_82 rfl ?_
  refine V_iload_n 84 0 rfl rfl dX3_writeTo_83 rfl ?_
  refine V_bipush 86 (24) rfl dX3_writeTo_84 rfl ?_
  refine V_iadd 87 dX3_writeTo_86 rfl ?_
  refine V_rw (show _ = nI (q + 26) from by rw [show ((24 : Int32)) = nI 24 from rfl, nI_add]) ?_
  refine V_bipush 89 (6) rfl dX3_writeTo_87 rfl ?_
  refine V_copy 92 23 41 6 2346 lkX3_48 rfl rfl (by decide) (by decide) (by decide) (nI_pos (by omega)) (by decide) (by decide) (by rw [nI_clamp (by omega)]; show _ + 6 ≤ 2346; omega) (Nat.le_of_ble_eq_true rfl) dX3_writeTo_89 rfl ?_
  refine V_rwI ((cp_up (s := 0) (e := q + 26) (k := 6) (by decide) rfl (nI_clamp (by omega)) rfl).trans (by rw [← e5])) ?_
  refine V_aload_n 93 1 rfl _ rfl rfl dX3_writeTo_92 rfl ?_
  refine V_getR 96 18 3 5 24 (hRK 18 5 (by decide) (by decide) (by decide)) flX3_27 rfl rfl rfl (by decide) dX3_writeTo_93 rfl ?_
  refine V_iconst 97 (0) rfl dX3_writeTo_96 rfl ?_
  refine V_aload_n 98 2 rfl _ rfl rfl dX3_writeTo_97 rfl ?_
  refine V_iload_n 99 0 rfl rfl dX3_writeTo_98 rfl ?_
  refine V_bipush 101 (30) rfl dX3_writeTo_99 rfl ?_
  refine V_iadd 102 dX3_writeTo_101 rfl ?_
  refine V_rw (show _ = nI (q + 32) from by rw [show ((30 : Int32)) = nI 30 from rfl, nI_add]) ?_
  refine V_bipush 104 (8) rfl dX3_writeTo_102 rfl ?_
  refine V_copy 107 24 41 8 2346 lkX3_48 rfl rfl (by decide) (by decide) (by decide) (nI_pos (by omega)) (by decide) (by decide) (by rw [nI_clamp (by omega)]; show _ + 8 ≤ 2346; omega) (Nat.le_of_ble_eq_true rfl) dX3_writeTo_104 rfl ?_
  refine V_rwI ((cp_up (s := 0) (e := q + 32) (k := 8) (by decide) rfl (nI_clamp (by omega)) rfl).trans (by rw [← e6])) ?_
  refine V_aload_n 108 1 rfl _ rfl rfl dX3_writeTo_107 rfl ?_
  refine V_getR 111 18 3 6 25 (hRK 18 6 (by decide) (by decide) (by decide)) flX3_30 rfl rfl rfl (by decide) dX3_writeTo_108 rfl ?_
  refine V_iconst 112 (0) rfl dX3_writeTo_111 rfl ?_
  refine V_aload_n 113 2 rfl _ rfl rfl dX3_writeTo_112 rfl ?_
  refine V_iload_n 114 0 rfl rfl dX3_writeTo_113 rfl ?_
  refine V_bipush 116 (30) rfl dX3_writeTo_114 rfl ?_
  refine V_iadd 117 dX3_writeTo_116 rfl ?_
  refine V_rw (show _ = nI (q + 32) from by rw [show ((30 : Int32)) = nI 30 from rfl, nI_add]) ?_
  refine V_bipush 119 (8) rfl dX3_writeTo_117 rfl ?_
  refine V_iadd 120 dX3_writeTo_119 rfl ?_
  refine V_rw (show _ = nI (q + 40) from by rw [show ((8 : Int32)) = nI 8 from rfl, nI_add]) ?_
  refine V_bipush 122 (6) rfl dX3_writeTo_120 rfl ?_
  refine V_copy 125 25 41 6 2346 lkX3_48 rfl rfl (by decide) (by decide) (by decide) (nI_pos (by omega)) (by decide) (by decide) (by rw [nI_clamp (by omega)]; show _ + 6 ≤ 2346; omega) (Nat.le_of_ble_eq_true rfl) dX3_writeTo_122 rfl ?_
  refine V_rwI ((cp_up (s := 0) (e := q + 40) (k := 6) (by decide) rfl (nI_clamp (by omega)) rfl).trans (by rw [← e7])) ?_
  refine V_ret_v rfl (Nat.le_of_ble_eq_true rfl) (fun h => absurd h (by decide)) (Nat.le_of_ble_eq_true rfl) (hq g7 hrow hout) dX3_writeTo_125
theorem c_X3_readFrom_41 {G : Gx} {d : Nat} {I : FI} {R : FR} {J : FJ} {Q : Po} (hRK : RK R) {D : DV} {q : Nat} (hr : RowC (I 41) q D) (hq46 : q + 46 ≤ 2346) (hq : ∀ I', DayC I' 18 D → FrC I I' 18 → Q (.inl none) 103 I' R J) : Cc G mX3_readFrom d 0 0 [rf G 18, rf G 41, .int (nI q)] 103 I R J Q := by
  obtain ⟨h1, h2, h3, h4, h5, h6, h7, h8, h9⟩ := hr
  obtain ⟨B0, e0⟩ : ∃ B0, B0 = up2 (up2 I 18 7 (D 50)) 18 8 (livB D 6) := ⟨_, rfl⟩
  obtain ⟨B1, e1⟩ : ∃ B1, B1 = upA B0 19 (va_cpy (B0 41) (B0 19) (q + 2) 0 6) := ⟨_, rfl⟩
  obtain ⟨B2, e2⟩ : ∃ B2, B2 = upA B1 20 (va_cpy (B1 41) (B1 20) (q + 8) 0 6) := ⟨_, rfl⟩
  obtain ⟨B3, e3⟩ : ∃ B3, B3 = upA B2 21 (va_cpy (B2 41) (B2 21) (q + 14) 0 6) := ⟨_, rfl⟩
  obtain ⟨B4, e4⟩ : ∃ B4, B4 = upA B3 22 (va_cpy (B3 41) (B3 22) (q + 20) 0 6) := ⟨_, rfl⟩
  obtain ⟨B5, e5⟩ : ∃ B5, B5 = upA B4 23 (va_cpy (B4 41) (B4 23) (q + 26) 0 6) := ⟨_, rfl⟩
  obtain ⟨B6, e6⟩ : ∃ B6, B6 = upA B5 24 (va_cpy (B5 41) (B5 24) (q + 32) 0 8) := ⟨_, rfl⟩
  obtain ⟨B7, e7⟩ : ∃ B7, B7 = upA B6 25 (va_cpy (B6 41) (B6 25) (q + 40) 0 6) := ⟨_, rfl⟩
  have z0 : B0 41 = I 41 := by rw [e0, up2_n _ _ _ (by decide), up2_n _ _ _ (by decide)]
  have z1 : B1 41 = I 41 := by rw [e1, upA_n (by decide), e0, up2_n _ _ _ (by decide), up2_n _ _ _ (by decide)]
  have z2 : B2 41 = I 41 := by rw [e2, upA_n (by decide), e1, upA_n (by decide), e0, up2_n _ _ _ (by decide), up2_n _ _ _ (by decide)]
  have z3 : B3 41 = I 41 := by rw [e3, upA_n (by decide), e2, upA_n (by decide), e1, upA_n (by decide), e0, up2_n _ _ _ (by decide), up2_n _ _ _ (by decide)]
  have z4 : B4 41 = I 41 := by rw [e4, upA_n (by decide), e3, upA_n (by decide), e2, upA_n (by decide), e1, upA_n (by decide), e0, up2_n _ _ _ (by decide), up2_n _ _ _ (by decide)]
  have z5 : B5 41 = I 41 := by rw [e5, upA_n (by decide), e4, upA_n (by decide), e3, upA_n (by decide), e2, upA_n (by decide), e1, upA_n (by decide), e0, up2_n _ _ _ (by decide), up2_n _ _ _ (by decide)]
  have z6 : B6 41 = I 41 := by rw [e6, upA_n (by decide), e5, upA_n (by decide), e4, upA_n (by decide), e3, upA_n (by decide), e2, upA_n (by decide), e1, upA_n (by decide), e0, up2_n _ _ _ (by decide), up2_n _ _ _ (by decide)]
  have z7 : B7 41 = I 41 := by rw [e7, upA_n (by decide), e6, upA_n (by decide), e5, upA_n (by decide), e4, upA_n (by decide), e3, upA_n (by decide), e2, upA_n (by decide), e1, upA_n (by decide), e0, up2_n _ _ _ (by decide), up2_n _ _ _ (by decide)]
  have hD : DayC B7 18 D := by
    refine ⟨fun m hm => ?_, fun m hm => ?_, fun m hm => ?_, fun m hm => ?_, fun m hm => ?_, fun m hm => ?_, fun m hm => ?_, ?_, ?_⟩
    · rw [e7, upA_n (by decide), e6, upA_n (by decide), e5, upA_n (by decide), e4, upA_n (by decide), e3, upA_n (by decide), e2, upA_n (by decide), e1, upA_s, cpy_in (Nat.zero_le _) (by omega), z0, show q + 2 + (m - 0) = q + 2 + m by omega]; exact h3 m hm
    · rw [e7, upA_n (by decide), e6, upA_n (by decide), e5, upA_n (by decide), e4, upA_n (by decide), e3, upA_n (by decide), e2, upA_s, cpy_in (Nat.zero_le _) (by omega), z1, show q + 8 + (m - 0) = q + 8 + m by omega]; exact h4 m hm
    · rw [e7, upA_n (by decide), e6, upA_n (by decide), e5, upA_n (by decide), e4, upA_n (by decide), e3, upA_s, cpy_in (Nat.zero_le _) (by omega), z2, show q + 14 + (m - 0) = q + 14 + m by omega]; exact h5 m hm
    · rw [e7, upA_n (by decide), e6, upA_n (by decide), e5, upA_n (by decide), e4, upA_s, cpy_in (Nat.zero_le _) (by omega), z3, show q + 20 + (m - 0) = q + 20 + m by omega]; exact h6 m hm
    · rw [e7, upA_n (by decide), e6, upA_n (by decide), e5, upA_s, cpy_in (Nat.zero_le _) (by omega), z4, show q + 26 + (m - 0) = q + 26 + m by omega]; exact h7 m hm
    · rw [e7, upA_n (by decide), e6, upA_s, cpy_in (Nat.zero_le _) (by omega), z5, show q + 32 + (m - 0) = q + 32 + m by omega]; exact h8 m hm
    · rw [e7, upA_s, cpy_in (Nat.zero_le _) (by omega), z6, show q + 40 + (m - 0) = q + 40 + m by omega]; exact h9 m hm
    · rw [e7, upA_n (by decide), e6, upA_n (by decide), e5, upA_n (by decide), e4, upA_n (by decide), e3, upA_n (by decide), e2, upA_n (by decide), e1, upA_n (by decide), e0, up2_s, upd_n (by decide), up2_s]; exact upd_s
    · rw [e7, upA_n (by decide), e6, upA_n (by decide), e5, upA_n (by decide), e4, upA_n (by decide), e3, upA_n (by decide), e2, upA_n (by decide), e1, upA_n (by decide), e0, up2_s]; exact upd_s
  have hF : FrC I B7 18 := fun x hx => by rw [e7, upA_n (by omega), e6, upA_n (by omega), e5, upA_n (by omega), e4, upA_n (by omega), e3, upA_n (by omega), e2, upA_n (by omega), e1, upA_n (by omega), e0, up2_n _ _ _ (by omega), up2_n _ _ _ (by omega)]
  show V _ _ _ _ _ _ _ _ [(0, rf G 18), (1, rf G 41), (2, .int (nI q))] [] _ _ _ _ _
  refine V_aload_n 1 0 rfl _ rfl rfl dX3_readFrom_0 rfl ?_
  refine V_aload_n 2 1 rfl _ rfl rfl dX3_readFrom_1 rfl ?_
  refine V_iload_n 3 2 rfl rfl dX3_readFrom_2 rfl ?_
  refine V_ialdN 4 41 2346 q (D 50) h1 (by omega) (by decide) rfl (by decide) dX3_readFrom_3 rfl ?_
  refine V_putI 7 18 3 7 flX3_54 rfl rfl rfl (by decide) rfl dX3_readFrom_4 rfl ?_
  refine V_aload_n 8 0 rfl _ rfl rfl dX3_readFrom_7 rfl ?_
  refine V_aload_n 9 1 rfl _ rfl rfl dX3_readFrom_8 rfl ?_
  refine V_iload_n 10 2 rfl rfl dX3_readFrom_9 rfl ?_
  refine V_iconst 11 (1) rfl dX3_readFrom_10 rfl ?_
  refine V_iadd 12 dX3_readFrom_11 rfl ?_
  refine V_rw (show _ = nI (q + 1) from by rw [show ((1 : Int32)) = nI 1 from rfl, nI_add]) ?_
  refine V_ialdN 13 41 2346 (q + 1) (livB D 6) (by rw [up2_n _ _ _ (by decide)]; exact h2) (by omega) (by decide) rfl (by decide) dX3_readFrom_12 rfl ?_
  refine V_putI 16 18 3 8 flX3_60 rfl rfl rfl (by decide) rfl dX3_readFrom_13 rfl ?_
  rw [← e0]
  refine V_iload_n 17 2 rfl rfl dX3_readFrom_16 rfl ?_
  refine V_iconst 18 (2) rfl dX3_readFrom_17 rfl ?_
  refine V_iadd 19 dX3_readFrom_18 rfl ?_
  refine V_rw (show _ = nI (q + 2) from by rw [show ((2 : Int32)) = nI 2 from rfl, nI_add]) ?_
  refine V_istore_n 20 [(3, .int (nI (q + 2))), (0, rf G 18), (1, rf G 41), (2, .int (nI q))] (by decide) rfl rfl dX3_readFrom_19 rfl ?_
  refine V_aload_n 21 2 rfl _ rfl rfl dX3_readFrom_20 rfl ?_
  refine V_iload_n 22 0 rfl rfl dX3_readFrom_21 rfl ?_
  refine V_aload_n 23 1 rfl _ rfl rfl dX3_readFrom_22 rfl ?_
  refine V_getR 26 18 3 0 19 (hRK 18 0 (by decide) (by decide) (by decide)) flX3_9 rfl rfl rfl (by decide) dX3_readFrom_23 rfl ?_
  refine V_iconst 27 (0) rfl dX3_readFrom_26 rfl ?_
  refine V_bipush 29 (6) rfl dX3_readFrom_27 rfl ?_
  refine V_copy 32 41 19 2346 6 lkX3_48 rfl rfl (by decide) (by decide) (nI_pos (by omega)) (by decide) (by decide) (by rw [nI_clamp (by omega)]; show _ + 6 ≤ 2346; omega) (by decide) (Nat.le_of_ble_eq_true rfl) dX3_readFrom_29 rfl ?_
  refine V_rwI (show _ = B1 from by rw [e1, nI_clamp (by omega)]; rfl) ?_
  refine V_aload_n 33 2 rfl _ rfl rfl dX3_readFrom_32 rfl ?_
  refine V_iload_n 34 0 rfl rfl dX3_readFrom_33 rfl ?_
  refine V_bipush 36 (6) rfl dX3_readFrom_34 rfl ?_
  refine V_iadd 37 dX3_readFrom_36 rfl ?_
  refine V_rw (show _ = nI (q + 8) from by rw [show ((6 : Int32)) = nI 6 from rfl, nI_add]) ?_
  refine V_aload_n 38 1 rfl _ rfl rfl dX3_readFrom_37 rfl ?_
  refine V_getR 41 18 3 1 20 (hRK 18 1 (by decide) (by decide) (by decide)) flX3_15 rfl rfl rfl (by decide) dX3_readFrom_38 rfl ?_
  refine V_iconst 42 (0) rfl dX3_readFrom_41 rfl ?_
  refine V_bipush 44 (6) rfl dX3_readFrom_42 rfl ?_
  refine V_copy 47 41 20 2346 6 lkX3_48 rfl rfl (by decide) (by decide) (nI_pos (by omega)) (by decide) (by decide) (by rw [nI_clamp (by omega)]; show _ + 6 ≤ 2346; omega) (by decide) (Nat.le_of_ble_eq_true rfl) dX3_readFrom_44 rfl ?_
  refine V_rwI (show _ = B2 from by rw [e2, nI_clamp (by omega)]; rfl) ?_
  refine V_aload_n 48 2 rfl _ rfl rfl dX3_readFrom_47 rfl ?_
  refine V_iload_n 49 0 rfl rfl dX3_readFrom_48 rfl ?_
  refine V_bipush 51 (12) rfl dX3_readFrom_49 rfl ?_
  refine V_iadd 52 dX3_readFrom_51 rfl ?_
  refine V_rw (show _ = nI (q + 14) from by rw [show ((12 : Int32)) = nI 12 from rfl, nI_add]) ?_
  refine V_aload_n 53 1 rfl _ rfl rfl dX3_readFrom_52 rfl ?_
  refine V_getR 56 18 3 2 21 (hRK 18 2 (by decide) (by decide) (by decide)) flX3_18 rfl rfl rfl (by decide) dX3_readFrom_53 rfl ?_
  refine V_iconst 57 (0) rfl dX3_readFrom_56 rfl ?_
  refine V_bipush 59 (6) rfl dX3_readFrom_57 rfl ?_
  refine V_copy 62 41 21 2346 6 lkX3_48 rfl rfl (by decide) (by decide) (nI_pos (by omega)) (by decide) (by decide) (by rw [nI_clamp (by omega)]; show _ + 6 ≤ 2346; omega) (by decide) (Nat.le_of_ble_eq_true rfl) dX3_readFrom_59 rfl ?_
  refine V_rwI (show _ = B3 from by rw [e3, nI_clamp (by omega)]; rfl) ?_
  refine V_aload_n 63 2 rfl _ rfl rfl dX3_readFrom_62 rfl ?_
  refine V_iload_n 64 0 rfl rfl dX3_readFrom_63 rfl ?_
  refine V_bipush 66 (18) rfl dX3_readFrom_64 rfl ?_
  refine V_iadd 67 dX3_readFrom_66 rfl ?_
  refine V_rw (show _ = nI (q + 20) from by rw [show ((18 : Int32)) = nI 18 from rfl, nI_add]) ?_
  refine V_aload_n 68 1 rfl _ rfl rfl dX3_readFrom_67 rfl ?_
  refine V_getR 71 18 3 3 22 (hRK 18 3 (by decide) (by decide) (by decide)) flX3_21 rfl rfl rfl (by decide) dX3_readFrom_68 rfl ?_
  refine V_iconst 72 (0) rfl dX3_readFrom_71 rfl ?_
  refine V_bipush 74 (6) rfl dX3_readFrom_72 rfl ?_
  refine V_copy 77 41 22 2346 6 lkX3_48 rfl rfl (by decide) (by decide) (nI_pos (by omega)) (by decide) (by decide) (by rw [nI_clamp (by omega)]; show _ + 6 ≤ 2346; omega) (by decide) (Nat.le_of_ble_eq_true rfl) dX3_readFrom_74 rfl ?_
  refine V_rwI (show _ = B4 from by rw [e4, nI_clamp (by omega)]; rfl) ?_
  refine V_aload_n 78 2 rfl _ rfl rfl dX3_readFrom_77 rfl ?_
  refine V_iload_n 79 0 rfl rfl dX3_readFrom_78 rfl ?_
  refine V_bipush 81 (24) rfl dX3_readFrom_79 rfl ?_
  refine V_iadd 82 dX3_readFrom_81 rfl ?_
  refine V_rw (show _ = nI (q + 26) from by rw [show ((24 : Int32)) = nI 24 from rfl, nI_add]) ?_
  refine V_aload_n 83 1 rfl _ rfl rfl dX3_readFrom_82 rfl ?_
  refine V_getR 86 18 3 4 23 (hRK 18 4 (by decide) (by decide) (by decide)) flX3_24 rfl rfl rfl (by decide) dX3_readFrom_83 rfl ?_
  refine V_iconst 87 (0) rfl dX3_readFrom_86 rfl ?_
  refine V_bipush 89 (6) rfl dX3_readFrom_87 rfl ?_
  refine V_copy 92 41 23 2346 6 lkX3_48 rfl rfl (by decide) (by decide) (nI_pos (by omega)) (by decide) (by decide) (by rw [nI_clamp (by omega)]; show _ + 6 ≤ 2346; omega) (by decide) (Nat.le_of_ble_eq_true rfl) dX3_readFrom_89 rfl ?_
  refine V_rwI (show _ = B5 from by rw [e5, nI_clamp (by omega)]; rfl) ?_
  refine V_aload_n 93 2 rfl _ rfl rfl dX3_readFrom_92 rfl ?_
  refine V_iload_n 94 0 rfl rfl dX3_readFrom_93 rfl ?_
  refine V_bipush 96 (30) rfl dX3_readFrom_94 rfl ?_
  refine V_iadd 97 dX3_readFrom_96 rfl ?_
  refine V_rw (show _ = nI (q + 32) from by rw [show ((30 : Int32)) = nI 30 from rfl, nI_add]) ?_
  refine V_aload_n 98 1 rfl _ rfl rfl dX3_readFrom_97 rfl ?_
  refine V_getR 101 18 3 5 24 (hRK 18 5 (by decide) (by decide) (by decide)) flX3_27 rfl rfl rfl (by decide) dX3_readFrom_98 rfl ?_
  refine V_iconst 102 (0) rfl dX3_readFrom_101 rfl ?_
  refine V_bipush 104 (8) rfl dX3_readFrom_102 rfl ?_
  refine V_copy 107 41 24 2346 8 lkX3_48 rfl rfl (by decide) (by decide) (nI_pos (by omega)) (by decide) (by decide) (by rw [nI_clamp (by omega)]; show _ + 8 ≤ 2346; omega) (by decide) (Nat.le_of_ble_eq_true rfl) dX3_readFrom_104 rfl ?_
  refine V_rwI (show _ = B6 from by rw [e6, nI_clamp (by omega)]; rfl) ?_
  refine V_aload_n 108 2 rfl _ rfl rfl dX3_readFrom_107 rfl ?_
  refine V_iload_n 109 0 rfl rfl dX3_readFrom_108 rfl ?_
  refine V_bipush 111 (30) rfl dX3_readFrom_109 rfl ?_
  refine V_iadd 112 dX3_readFrom_111 rfl ?_
  refine V_rw (show _ = nI (q + 32) from by rw [show ((30 : Int32)) = nI 30 from rfl, nI_add]) ?_
  refine V_bipush 114 (8) rfl dX3_readFrom_112 rfl ?_
  refine V_iadd 115 dX3_readFrom_114 rfl ?_
  refine V_rw (show _ = nI (q + 40) from by rw [show ((8 : Int32)) = nI 8 from rfl, nI_add]) ?_
  refine V_aload_n 116 1 rfl _ rfl rfl dX3_readFrom_115 rfl ?_
  refine V_getR 119 18 3 6 25 (hRK 18 6 (by decide) (by decide) (by decide)) flX3_30 rfl rfl rfl (by decide) dX3_readFrom_116 rfl ?_
  refine V_iconst 120 (0) rfl dX3_readFrom_119 rfl ?_
  refine V_bipush 122 (6) rfl dX3_readFrom_120 rfl ?_
  refine V_copy 125 41 25 2346 6 lkX3_48 rfl rfl (by decide) (by decide) (nI_pos (by omega)) (by decide) (by decide) (by rw [nI_clamp (by omega)]; show _ + 6 ≤ 2346; omega) (by decide) (Nat.le_of_ble_eq_true rfl) dX3_readFrom_122 rfl ?_
  refine V_rwI (show _ = B7 from by rw [e7, nI_clamp (by omega)]; rfl) ?_
  refine V_ret_v rfl (Nat.le_of_ble_eq_true rfl) (fun h => absurd h (by decide)) (Nat.le_of_ble_eq_true rfl) (hq B7 hD hF) dX3_readFrom_125
theorem c_X4_forget {G : Gx} {d : Nat} {I : FI} {R : FR} {J : FJ} {Q : Po} (hq : Q (.inl none) 103 (up2 (up2 I 39 3 0) 39 4 0) R J) : Cc G mX4_forget d 0 0 [rf G 39] 103 I R J Q := by
  show V _ _ _ _ _ _ _ _ [(0, rf G 39)] [] _ _ _ _ _
  refine V_aload_n 1 0 rfl _ rfl rfl dX4_forget_0 rfl ?_
  refine V_iconst 2 (0) rfl dX4_forget_1 rfl ?_
  refine V_putI 5 39 4 3 flX4_23 rfl rfl rfl (by decide) rfl dX4_forget_2 rfl ?_
  refine V_aload_n 6 0 rfl _ rfl rfl dX4_forget_5 rfl ?_
  refine V_iconst 7 (0) rfl dX4_forget_6 rfl ?_
  refine V_putI 10 39 4 4 flX4_27 rfl rfl rfl (by decide) rfl dX4_forget_7 rfl ?_
  refine V_ret_v rfl (Nat.le_of_ble_eq_true rfl) (fun h => absurd h (by decide)) (Nat.le_of_ble_eq_true rfl) (hq) dX4_forget_10
theorem c_X4_keepWork {G : Gx} {d : Nat} {I : FI} {R : FR} {J : FJ} {Q : Po} (hRK : RK R) {D : DV} (hD : DayC I 18 D) {wn : Nat} (hw : I 39 3 = nI wn) (h16 : wn < 16) (hq : ∀ g : DV, RowC g (wn * 46) D → (∀ j, (j < wn * 46 ∨ wn * 46 + 46 ≤ j) → g j = I 40 j) → Q (.inl none) 103 (up2 (upA I 40 g) 39 3 (nI (wn + 1))) R J) : Cc G mX4_keepWork (d + 1) 0 0 [rf G 39, rf G 18] 103 I R J Q := by
  show V _ _ _ _ _ _ _ _ [(0, rf G 39), (1, rf G 18)] [] _ _ _ _ _
  refine V_aload_n 1 0 rfl _ rfl rfl dX4_keepWork_0 rfl ?_
  refine V_getI 4 39 4 3 (nI wn) hw flX4_23 rfl rfl rfl (by decide) dX4_keepWork_1 rfl ?_
  refine V_bipush 6 (16) rfl dX4_keepWork_4 rfl ?_
  refine V_icmp_ge 34 9 rfl dX4_keepWork_6 rfl (fun c6 => absurd c6 (nI_ge (b := 16) h16 (by decide))) (fun c6 => ?_)
  refine V_aload_n 10 1 rfl _ rfl rfl dX4_keepWork_9 rfl ?_
  refine V_aload_n 11 0 rfl _ rfl rfl dX4_keepWork_10 rfl ?_
  refine V_getR 14 39 4 0 40 (hRK 39 0 (by decide) (by decide) (by decide)) flX4_13 rfl rfl rfl (by decide) dX4_keepWork_11 rfl ?_
  refine V_aload_n 15 0 rfl _ rfl rfl dX4_keepWork_14 rfl ?_
  refine V_getI 18 39 4 3 (nI wn) hw flX4_23 rfl rfl rfl (by decide) dX4_keepWork_15 rfl ?_
  refine V_bipush 20 (46) rfl dX4_keepWork_18 rfl ?_
  refine V_imul 21 dX4_keepWork_20 rfl ?_
  refine V_rw (pk_mul wn 46) ?_
  refine V_callV (K' := 0) (S' := 0) 24 18 3 2 [rf G 40, .int (nI (wn * 46))] mkX3_writeTo lkX4_30 (by decide) rfl rfl (by decide) rfl (Nat.le_of_ble_eq_true rfl) (Nat.le_of_ble_eq_true rfl) (Nat.le_of_ble_eq_true rfl) (Nat.le_of_ble_eq_true rfl) rfl rfl dX4_keepWork_21 rfl (c_X3_writeTo_40 hRK hD (by omega) (fun g hg1 hg2 => ?_))
  refine Kq_v (k' := 0) (sl' := 0) rfl rfl ?_
  refine V_aload_n 25 0 rfl _ rfl rfl dX4_keepWork_24 rfl ?_
  refine V_dup 26 rfl dX4_keepWork_25 rfl ?_
  refine V_getI 29 39 4 3 (nI wn) (by rw [upA_n (by decide)]; exact hw) flX4_23 rfl rfl rfl (by decide) dX4_keepWork_26 rfl ?_
  refine V_iconst 30 (1) rfl dX4_keepWork_29 rfl ?_
  refine V_iadd 31 dX4_keepWork_30 rfl ?_
  refine V_rw (nI_add wn 1) ?_
  refine V_putI 34 39 4 3 flX4_23 rfl rfl rfl (by decide) rfl dX4_keepWork_31 rfl ?_
  refine V_ret_v rfl (Nat.le_of_ble_eq_true rfl) (fun h => absurd h (by decide)) (Nat.le_of_ble_eq_true rfl) (hq g hg1 hg2) dX4_keepWork_34
theorem c_X4_dropWork {G : Gx} {d : Nat} {I : FI} {R : FR} {J : FJ} {Q : Po} (hRK : RK R) {D : DV} {wn : Nat} (hw : I 39 3 = nI wn) (h16 : wn ≤ 16) (hr : 0 < wn → RowC (I 40) ((wn - 1) * 46) D) (h0 : wn = 0 → Q (.inl (some (.int 0))) 103 I R J) (h1 : 0 < wn → ∀ I', DayC I' 18 D → FrC (up2 I 39 3 (nI (wn - 1))) I' 18 → Q (.inl (some (.int 1))) 103 I' R J) : Cc G mX4_dropWork (d + 1) 0 0 [rf G 39, rf G 18] 103 I R J Q := by
  show V _ _ _ _ _ _ _ _ [(0, rf G 39), (1, rf G 18)] [] _ _ _ _ _
  by_cases p0 : 0 < wn
  · refine V_aload_n 1 0 rfl _ rfl rfl dX4_dropWork_0 rfl ?_
    refine V_getI 4 39 4 3 (nI wn) hw flX4_23 rfl rfl rfl (by decide) dX4_dropWork_1 rfl ?_
    refine V_if_gt 9 7 rfl dX4_dropWork_4 rfl (fun c4 => ?_) (fun c4 => absurd (nI_lt (a := 0) p0 (by omega)) c4)
    refine V_aload_n 10 0 rfl _ rfl rfl dX4_dropWork_9 rfl ?_
    refine V_dup 11 rfl dX4_dropWork_10 rfl ?_
    refine V_getI 14 39 4 3 (nI wn) hw flX4_23 rfl rfl rfl (by decide) dX4_dropWork_11 rfl ?_
    refine V_iconst 15 (1) rfl dX4_dropWork_14 rfl ?_
    refine V_isub 16 dX4_dropWork_15 rfl ?_
    refine V_rw (show _ = nI (wn - 1) from nI_sub (a := wn) (b := 1) (by omega)) ?_
    refine V_putI 19 39 4 3 flX4_23 rfl rfl rfl (by decide) rfl dX4_dropWork_16 rfl ?_
    refine V_aload_n 20 1 rfl _ rfl rfl dX4_dropWork_19 rfl ?_
    refine V_aload_n 21 0 rfl _ rfl rfl dX4_dropWork_20 rfl ?_
    refine V_getR 24 39 4 0 40 (hRK 39 0 (by decide) (by decide) (by decide)) flX4_13 rfl rfl rfl (by decide) dX4_dropWork_21 rfl ?_
    refine V_aload_n 25 0 rfl _ rfl rfl dX4_dropWork_24 rfl ?_
    refine V_getI 28 39 4 3 (nI (wn - 1)) (by rw [up2_s]; exact upd_s) flX4_23 rfl rfl rfl (by decide) dX4_dropWork_25 rfl ?_
    refine V_bipush 30 (46) rfl dX4_dropWork_28 rfl ?_
    refine V_imul 31 dX4_dropWork_30 rfl ?_
    refine V_rw (pk_mul (wn - 1) 46) ?_
    refine V_callV (K' := 0) (S' := 0) 34 18 3 2 [rf G 40, .int (nI ((wn - 1) * 46))] mkX3_readFrom lkX4_34 (by decide) rfl rfl (by decide) rfl (Nat.le_of_ble_eq_true rfl) (Nat.le_of_ble_eq_true rfl) (Nat.le_of_ble_eq_true rfl) (Nat.le_of_ble_eq_true rfl) rfl rfl dX4_dropWork_31 rfl (c_X3_readFrom_40 hRK (D := D) (by rw [up2_n _ _ _ (by decide)]; exact hr p0) (by omega) (fun I2 hD2 hF2 => ?_))
    refine Kq_v (k' := 0) (sl' := 0) rfl rfl ?_
    refine V_iconst 35 (1) rfl dX4_dropWork_34 rfl ?_
    refine V_ret_i rfl (by first | rfl | decide) (Nat.le_of_ble_eq_true rfl) (fun h => absurd h (by decide)) (Nat.le_of_ble_eq_true rfl) (h1 p0 I2 hD2 hF2) dX4_dropWork_35
  · refine V_aload_n 1 0 rfl _ rfl rfl dX4_dropWork_0 rfl ?_
    refine V_getI 4 39 4 3 (nI wn) hw flX4_23 rfl rfl rfl (by decide) dX4_dropWork_1 rfl ?_
    refine V_if_gt 9 7 rfl dX4_dropWork_4 rfl (fun c4 => absurd c4 (by rw [show wn = 0 by omega]; decide)) (fun c4 => ?_)
    refine V_iconst 8 (0) rfl dX4_dropWork_7 rfl ?_
    refine V_ret_i rfl (by first | rfl | decide) (Nat.le_of_ble_eq_true rfl) (fun h => absurd h (by decide)) (Nat.le_of_ble_eq_true rfl) (h0 (by omega)) dX4_dropWork_8
theorem c_X4_keepImage {G : Gx} {d : Nat} {I : FI} {R : FR} {J : FJ} {Q : Po} (hRK : RK R) {D : DV} (hD : DayC I 18 D) {wn mn : Nat} (hw : I 39 3 = nI wn) (hm : I 39 4 = nI mn) (h16 : wn ≤ 16) (h3 : mn ≤ 3) (h0 : mn = 3 → Q (.inl (some (.int 0))) 103 I R J) (h1 : mn < 3 → ∀ g : DV, RowC g (mn * 782 + 736) D → (∀ j, j < wn * 46 → g (mn * 782 + j) = I 40 j) → (∀ j, j < mn * 782 → g j = I 41 j) → Q (.inl (some (.int 1))) 103 (up2 (up2 (upA I 41 g) 42 mn (nI wn)) 39 4 (nI (mn + 1))) R J) : Cc G mX4_keepImage (d + 1) 0 0 [rf G 39, rf G 18] 103 I R J Q := by
  show V _ _ _ _ _ _ _ _ [(0, rf G 39), (1, rf G 18)] [] _ _ _ _ _
  by_cases p0 : mn < 3
  · obtain ⟨g0, e0⟩ : ∃ g0, g0 = va_cpy (I 40) (I 41) 0 (mn * 782) (wn * 46) := ⟨_, rfl⟩
    have hD0 : DayC (upA I 41 g0) 18 D := hD.fr (fun x hx hy => upA_n (by omega))
    refine V_aload_n 1 0 rfl _ rfl rfl dX4_keepImage_0 rfl ?_
    refine V_getI 4 39 4 4 (nI mn) hm flX4_27 rfl rfl rfl (by decide) dX4_keepImage_1 rfl ?_
    refine V_iconst 5 (3) rfl dX4_keepImage_4 rfl ?_
    refine V_icmp_lt 10 8 rfl dX4_keepImage_5 rfl (fun c5 => ?_) (fun c5 => absurd (nI_lt (b := 3) p0 (by decide)) c5)
    refine V_aload_n 11 0 rfl _ rfl rfl dX4_keepImage_10 rfl ?_
    refine V_getI 14 39 4 4 (nI mn) hm flX4_27 rfl rfl rfl (by decide) dX4_keepImage_11 rfl ?_
    refine V_sipush 17 (782) rfl dX4_keepImage_14 rfl ?_
    refine V_imul 18 dX4_keepImage_17 rfl ?_
    refine V_rw (pk_mul mn 782) ?_
    refine V_istore_n 19 [(2, .int (nI (mn * 782))), (0, rf G 39), (1, rf G 18)] (by decide) rfl rfl dX4_keepImage_18 rfl ?_
    refine V_aload_n 20 1 rfl _ rfl rfl dX4_keepImage_19 rfl ?_
    refine V_getR 23 39 4 0 40 (hRK 39 0 (by decide) (by decide) (by decide)) flX4_13 rfl rfl rfl (by decide) dX4_keepImage_20 rfl ?_
    refine V_iconst 24 (0) rfl dX4_keepImage_23 rfl ?_
    refine V_aload_n 25 1 rfl _ rfl rfl dX4_keepImage_24 rfl ?_
    refine V_getR 28 39 4 1 41 (hRK 39 1 (by decide) (by decide) (by decide)) flX4_17 rfl rfl rfl (by decide) dX4_keepImage_25 rfl ?_
    refine V_iload_n 29 0 rfl rfl dX4_keepImage_28 rfl ?_
    refine V_aload_n 30 1 rfl _ rfl rfl dX4_keepImage_29 rfl ?_
    refine V_getI 33 39 4 3 (nI wn) hw flX4_23 rfl rfl rfl (by decide) dX4_keepImage_30 rfl ?_
    refine V_bipush 35 (46) rfl dX4_keepImage_33 rfl ?_
    refine V_imul 36 dX4_keepImage_35 rfl ?_
    refine V_rw (pk_mul wn 46) ?_
    refine V_copy 39 40 41 736 2346 lkX4_37 rfl rfl (by decide) (by decide) (by decide) (nI_pos (by omega)) (nI_pos (by omega)) (by rw [nI_clamp (by omega)]; show 0 + _ ≤ 736; omega) (by rw [nI_clamp (by omega), nI_clamp (by omega)]; omega) (Nat.le_of_ble_eq_true rfl) dX4_keepImage_36 rfl ?_
    refine V_rwI (show _ = upA I 41 g0 from by rw [e0, nI_clamp (show mn * 782 < 2 ^ 31 by omega), nI_clamp (show wn * 46 < 2 ^ 31 by omega)]; rfl) ?_
    refine V_aload_n 40 2 rfl _ rfl rfl dX4_keepImage_39 rfl ?_
    refine V_aload_n 41 1 rfl _ rfl rfl dX4_keepImage_40 rfl ?_
    refine V_getR 44 39 4 1 41 (hRK 39 1 (by decide) (by decide) (by decide)) flX4_17 rfl rfl rfl (by decide) dX4_keepImage_41 rfl ?_
    refine V_iload_n 45 0 rfl rfl dX4_keepImage_44 rfl ?_
    refine V_sipush 48 (736) rfl dX4_keepImage_45 rfl ?_
    refine V_iadd 49 dX4_keepImage_48 rfl ?_
    refine V_rw (nI_add (mn * 782) 736) ?_
    refine V_callV (K' := 0) (S' := 0) 52 18 3 2 [rf G 41, .int (nI ((mn * 782) + 736))] mkX3_writeTo lkX4_30 (by decide) rfl rfl (by decide) rfl (Nat.le_of_ble_eq_true rfl) (Nat.le_of_ble_eq_true rfl) (Nat.le_of_ble_eq_true rfl) (Nat.le_of_ble_eq_true rfl) rfl rfl dX4_keepImage_49 rfl (c_X3_writeTo_41 hRK hD0 (by omega) (fun g hg1 hg2 => ?_))
    refine Kq_v (k' := 0) (sl' := 0) rfl rfl ?_
    rw [upA_upA]
    refine V_aload_n 53 1 rfl _ rfl rfl dX4_keepImage_52 rfl ?_
    refine V_getR 56 39 4 2 42 (hRK 39 2 (by decide) (by decide) (by decide)) flX4_20 rfl rfl rfl (by decide) dX4_keepImage_53 rfl ?_
    refine V_aload_n 57 1 rfl _ rfl rfl dX4_keepImage_56 rfl ?_
    refine V_getI 60 39 4 4 (nI mn) (by rw [upA_n (by decide)]; exact hm) flX4_27 rfl rfl rfl (by decide) dX4_keepImage_57 rfl ?_
    refine V_aload_n 61 1 rfl _ rfl rfl dX4_keepImage_60 rfl ?_
    refine V_getI 64 39 4 3 (nI wn) (by rw [upA_n (by decide)]; exact hw) flX4_23 rfl rfl rfl (by decide) dX4_keepImage_61 rfl ?_
    refine V_iastN 65 42 3 mn (by omega) (by decide) rfl (by decide) dX4_keepImage_64 rfl ?_
    refine V_aload_n 66 1 rfl _ rfl rfl dX4_keepImage_65 rfl ?_
    refine V_dup 67 rfl dX4_keepImage_66 rfl ?_
    refine V_getI 70 39 4 4 (nI mn) (by rw [up2_n _ _ _ (by decide), upA_n (by decide)]; exact hm) flX4_27 rfl rfl rfl (by decide) dX4_keepImage_67 rfl ?_
    refine V_iconst 71 (1) rfl dX4_keepImage_70 rfl ?_
    refine V_iadd 72 dX4_keepImage_71 rfl ?_
    refine V_rw (nI_add mn 1) ?_
    refine V_putI 75 39 4 4 flX4_27 rfl rfl rfl (by decide) rfl dX4_keepImage_72 rfl ?_
    refine V_iconst 76 (1) rfl dX4_keepImage_75 rfl ?_
    refine V_ret_i rfl (by first | rfl | decide) (Nat.le_of_ble_eq_true rfl) (fun h => absurd h (by decide)) (Nat.le_of_ble_eq_true rfl) (h1 p0 g hg1 (fun j hj => by rw [hg2 _ (by omega), upA_s, e0, cpy_in (by omega) (by omega), show 0 + (mn * 782 + j - mn * 782) = j by omega]) (fun j hj => by rw [hg2 _ (by omega), upA_s, e0, cpy_out (by omega)])) dX4_keepImage_76
  · refine V_aload_n 1 0 rfl _ rfl rfl dX4_keepImage_0 rfl ?_
    refine V_getI 4 39 4 4 (nI mn) hm flX4_27 rfl rfl rfl (by decide) dX4_keepImage_1 rfl ?_
    refine V_iconst 5 (3) rfl dX4_keepImage_4 rfl ?_
    refine V_icmp_lt 10 8 rfl dX4_keepImage_5 rfl (fun c5 => absurd c5 (nI_nlt (b := 3) (by omega) (by omega))) (fun c5 => ?_)
    refine V_iconst 9 (0) rfl dX4_keepImage_8 rfl ?_
    refine V_ret_i rfl (by first | rfl | decide) (Nat.le_of_ble_eq_true rfl) (fun h => absurd h (by decide)) (Nat.le_of_ble_eq_true rfl) (h0 (by omega)) dX4_keepImage_9
theorem c_X4_dropImage {G : Gx} {d : Nat} {I : FI} {R : FR} {J : FJ} {Q : Po} (hRK : RK R) {D : DV} {wn mn : Nat} (hm : I 39 4 = nI mn) (h3 : mn ≤ 3) (hi : 0 < mn → I 42 (mn - 1) = nI wn ∧ wn ≤ 16 ∧ RowC (I 41) ((mn - 1) * 782 + 736) D) (h0 : mn = 0 → Q (.inl (some (.int 0))) 103 I R J) (h1 : 0 < mn → ∀ I', DayC I' 18 D → (∀ j, j < wn * 46 → I' 40 j = I 41 ((mn - 1) * 782 + j)) → I' 39 3 = nI wn → I' 39 4 = nI (mn - 1) → (∀ a, a ≠ 39 → a ≠ 40 → (a < 18 ∨ 25 < a) → I' a = I a) → Q (.inl (some (.int 1))) 103 I' R J) : Cc G mX4_dropImage (d + 1) 0 0 [rf G 39, rf G 18] 103 I R J Q := by
  show V _ _ _ _ _ _ _ _ [(0, rf G 39), (1, rf G 18)] [] _ _ _ _ _
  by_cases p0 : 0 < mn
  · obtain ⟨i1, i2, i3⟩ := hi p0
    obtain ⟨B, eB⟩ : ∃ B, B = up2 (up2 I 39 4 (nI (mn - 1))) 39 3 (nI wn) := ⟨_, rfl⟩
    obtain ⟨C, eC⟩ : ∃ C, C = upA B 40 (va_cpy (B 41) (B 40) ((mn - 1) * 782) 0 (wn * 46)) := ⟨_, rfl⟩
    have b1 : ∀ a, a ≠ 39 → B a = I a := fun a h => by rw [eB, up2_n _ _ _ h, up2_n _ _ _ h]
    have b3 : B 39 3 = nI wn := by rw [eB, up2_s]; exact upd_s
    have b4 : B 39 4 = nI (mn - 1) := by rw [eB, up2_s, upd_n (by decide), up2_s]; exact upd_s
    have c1 : ∀ a, a ≠ 40 → C a = B a := fun a h => by rw [eC]; exact upA_n h
    have c40 : ∀ j, j < wn * 46 → C 40 j = I 41 ((mn - 1) * 782 + j) := fun j hj => by rw [eC, upA_s, cpy_in (Nat.zero_le _) (by omega), b1 41 (by decide), Nat.sub_zero]
    refine V_aload_n 1 0 rfl _ rfl rfl dX4_dropImage_0 rfl ?_
    refine V_getI 4 39 4 4 (nI mn) hm flX4_27 rfl rfl rfl (by decide) dX4_dropImage_1 rfl ?_
    refine V_if_gt 9 7 rfl dX4_dropImage_4 rfl (fun c4 => ?_) (fun c4 => absurd (nI_lt (a := 0) p0 (by omega)) c4)
    refine V_aload_n 10 0 rfl _ rfl rfl dX4_dropImage_9 rfl ?_
    refine V_dup 11 rfl dX4_dropImage_10 rfl ?_
    refine V_getI 14 39 4 4 (nI mn) hm flX4_27 rfl rfl rfl (by decide) dX4_dropImage_11 rfl ?_
    refine V_iconst 15 (1) rfl dX4_dropImage_14 rfl ?_
    refine V_isub 16 dX4_dropImage_15 rfl ?_
    refine V_rw (show _ = nI (mn - 1) from nI_sub (a := mn) (b := 1) (by omega)) ?_
    refine V_putI 19 39 4 4 flX4_27 rfl rfl rfl (by decide) rfl dX4_dropImage_16 rfl ?_
    refine V_aload_n 20 0 rfl _ rfl rfl dX4_dropImage_19 rfl ?_
    refine V_aload_n 21 0 rfl _ rfl rfl dX4_dropImage_20 rfl ?_
    refine V_getR 24 39 4 2 42 (hRK 39 2 (by decide) (by decide) (by decide)) flX4_20 rfl rfl rfl (by decide) dX4_dropImage_21 rfl ?_
    refine V_aload_n 25 0 rfl _ rfl rfl dX4_dropImage_24 rfl ?_
    refine V_getI 28 39 4 4 (nI (mn - 1)) (by rw [up2_s]; exact upd_s) flX4_27 rfl rfl rfl (by decide) dX4_dropImage_25 rfl ?_
    refine V_ialdN 29 42 3 (mn - 1) (nI wn) (by rw [up2_n _ _ _ (by decide)]; exact i1) (by omega) (by decide) rfl (by decide) dX4_dropImage_28 rfl ?_
    refine V_putI 32 39 4 3 flX4_23 rfl rfl rfl (by decide) rfl dX4_dropImage_29 rfl ?_
    rw [← eB]
    refine V_aload_n 33 0 rfl _ rfl rfl dX4_dropImage_32 rfl ?_
    refine V_getI 36 39 4 4 (nI (mn - 1)) b4 flX4_27 rfl rfl rfl (by decide) dX4_dropImage_33 rfl ?_
    refine V_sipush 39 (782) rfl dX4_dropImage_36 rfl ?_
    refine V_imul 40 dX4_dropImage_39 rfl ?_
    refine V_rw (pk_mul (mn - 1) 782) ?_
    refine V_istore_n 41 [(2, .int (nI ((mn - 1) * 782))), (0, rf G 39), (1, rf G 18)] (by decide) rfl rfl dX4_dropImage_40 rfl ?_
    refine V_aload_n 42 1 rfl _ rfl rfl dX4_dropImage_41 rfl ?_
    refine V_getR 45 39 4 1 41 (hRK 39 1 (by decide) (by decide) (by decide)) flX4_17 rfl rfl rfl (by decide) dX4_dropImage_42 rfl ?_
    refine V_iload_n 46 0 rfl rfl dX4_dropImage_45 rfl ?_
    refine V_aload_n 47 1 rfl _ rfl rfl dX4_dropImage_46 rfl ?_
    refine V_getR 50 39 4 0 40 (hRK 39 0 (by decide) (by decide) (by decide)) flX4_13 rfl rfl rfl (by decide) dX4_dropImage_47 rfl ?_
    refine V_iconst 51 (0) rfl dX4_dropImage_50 rfl ?_
    refine V_aload_n 52 1 rfl _ rfl rfl dX4_dropImage_51 rfl ?_
    refine V_getI 55 39 4 3 (nI wn) b3 flX4_23 rfl rfl rfl (by decide) dX4_dropImage_52 rfl ?_
    refine V_bipush 57 (46) rfl dX4_dropImage_55 rfl ?_
    refine V_imul 58 dX4_dropImage_57 rfl ?_
    refine V_rw (pk_mul wn 46) ?_
    refine V_copy 61 41 40 2346 736 lkX4_37 rfl rfl (by decide) (by decide) (nI_pos (by omega)) (by decide) (nI_pos (by omega)) (by rw [nI_clamp (by omega), nI_clamp (by omega)]; omega) (by rw [nI_clamp (by omega)]; show 0 + _ ≤ 736; omega) (Nat.le_of_ble_eq_true rfl) dX4_dropImage_58 rfl ?_
    refine V_rwI (show _ = C from by rw [eC, nI_clamp (show (mn - 1) * 782 < 2 ^ 31 by omega), nI_clamp (show wn * 46 < 2 ^ 31 by omega)]; rfl) ?_
    refine V_aload_n 62 2 rfl _ rfl rfl dX4_dropImage_61 rfl ?_
    refine V_aload_n 63 1 rfl _ rfl rfl dX4_dropImage_62 rfl ?_
    refine V_getR 66 39 4 1 41 (hRK 39 1 (by decide) (by decide) (by decide)) flX4_17 rfl rfl rfl (by decide) dX4_dropImage_63 rfl ?_
    refine V_iload_n 67 0 rfl rfl dX4_dropImage_66 rfl ?_
    refine V_sipush 70 (736) rfl dX4_dropImage_67 rfl ?_
    refine V_iadd 71 dX4_dropImage_70 rfl ?_
    refine V_rw (nI_add ((mn - 1) * 782) 736) ?_
    refine V_callV (K' := 0) (S' := 0) 74 18 3 2 [rf G 41, .int (nI (((mn - 1) * 782) + 736))] mkX3_readFrom lkX4_34 (by decide) rfl rfl (by decide) rfl (Nat.le_of_ble_eq_true rfl) (Nat.le_of_ble_eq_true rfl) (Nat.le_of_ble_eq_true rfl) (Nat.le_of_ble_eq_true rfl) rfl rfl dX4_dropImage_71 rfl (c_X3_readFrom_41 hRK (D := D) (by rw [c1 41 (by decide), b1 41 (by decide)]; exact i3) (by omega) (fun I2 hD2 hF2 => ?_))
    refine Kq_v (k' := 0) (sl' := 0) rfl rfl ?_
    refine V_iconst 75 (1) rfl dX4_dropImage_74 rfl ?_
    refine V_ret_i rfl (by first | rfl | decide) (Nat.le_of_ble_eq_true rfl) (fun h => absurd h (by decide)) (Nat.le_of_ble_eq_true rfl) (h1 p0 I2 hD2 (fun j hj => by rw [hF2 40 (by decide)]; exact c40 j hj) (by rw [hF2 39 (by decide), c1 39 (by decide)]; exact b3) (by rw [hF2 39 (by decide), c1 39 (by decide)]; exact b4) (fun a q1 q2 q3 => by rw [hF2 a (by omega), c1 a q2, b1 a q1])) dX4_dropImage_75
  · refine V_aload_n 1 0 rfl _ rfl rfl dX4_dropImage_0 rfl ?_
    refine V_getI 4 39 4 4 (nI mn) hm flX4_27 rfl rfl rfl (by decide) dX4_dropImage_1 rfl ?_
    refine V_if_gt 9 7 rfl dX4_dropImage_4 rfl (fun c4 => absurd c4 (by rw [show mn = 0 by omega]; decide)) (fun c4 => ?_)
    refine V_iconst 8 (0) rfl dX4_dropImage_7 rfl ?_
    refine V_ret_i rfl (by first | rfl | decide) (Nat.le_of_ble_eq_true rfl) (fun h => absurd h (by decide)) (Nat.le_of_ble_eq_true rfl) (h0 (by omega)) dX4_dropImage_8
