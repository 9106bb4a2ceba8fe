theorem livB_n {D : DV} {k : Nat} {v : Int32} (hk : k < 30 ∨ 36 ≤ k) : ∀ n, n ≤ 6 → livB (upd D k v) n = livB D n := by
  intro n
  induction n with
  | zero => intro _; rfl
  | succ n ih =>
    intro h
    rw [livB, livB, ih (by omega), show upd D k v (30 + n) = D (30 + n) from if_neg (by omega)]
theorem DayC_u1 {I : FI} {o m : Nat} {D : DV} {v : Int32} (h : DayC I o D) (hm : m < 6) : DayC (up2 I (o + 1) m v) o (upd D (18 + m) v) := by
  obtain ⟨h1, h2, h3, h4, h5, h6, h7, h8, h9⟩ := h
  refine ⟨?_, ?_, ?_, ?_, ?_, ?_, ?_, ?_, ?_⟩
  · intro j hj; rw [up2_s]; by_cases e : j = m
    · subst e; simp [upd]
    · rw [show upd (I (o + 1)) m v j = I (o + 1) j from if_neg e, show upd D (18 + m) v (18 + j) = D (18 + j) from if_neg (by omega)]; exact h1 j hj
  · intro j hj; rw [up2_n I _ _ (by omega), show upd D (18 + m) v (j) = D (j) from if_neg (by omega)]; exact h2 j hj
  · intro j hj; rw [up2_n I _ _ (by omega), show upd D (18 + m) v (6 + j) = D (6 + j) from if_neg (by omega)]; exact h3 j hj
  · intro j hj; rw [up2_n I _ _ (by omega), show upd D (18 + m) v (12 + j) = D (12 + j) from if_neg (by omega)]; exact h4 j hj
  · intro j hj; rw [up2_n I _ _ (by omega), show upd D (18 + m) v (24 + j) = D (24 + j) from if_neg (by omega)]; exact h5 j hj
  · intro j hj; rw [up2_n I _ _ (by omega), show upd D (18 + m) v (36 + j) = D (36 + j) from if_neg (by omega)]; exact h6 j hj
  · intro j hj; rw [up2_n I _ _ (by omega), show upd D (18 + m) v (44 + j) = D (44 + j) from if_neg (by omega)]; exact h7 j hj
  · rw [up2_n I _ _ (by omega), show upd D (18 + m) v 50 = D 50 from if_neg (by omega)]; exact h8
  · rw [up2_n I _ _ (by omega), livB_n (by omega) 6 (by decide)]; exact h9
theorem DayC_u2 {I : FI} {o m : Nat} {D : DV} {v : Int32} (h : DayC I o D) (hm : m < 6) : DayC (up2 I (o + 2) m v) o (upd D (m) v) := by
  obtain ⟨h1, h2, h3, h4, h5, h6, h7, h8, h9⟩ := h
  refine ⟨?_, ?_, ?_, ?_, ?_, ?_, ?_, ?_, ?_⟩
  · intro j hj; rw [up2_n I _ _ (by omega), show upd D (m) v (18 + j) = D (18 + j) from if_neg (by omega)]; exact h1 j hj
  · intro j hj; rw [up2_s]; by_cases e : j = m
    · subst e; simp [upd]
    · rw [show upd (I (o + 2)) m v j = I (o + 2) j from if_neg e, show upd D (m) v (j) = D (j) from if_neg (by omega)]; exact h2 j hj
  · intro j hj; rw [up2_n I _ _ (by omega), show upd D (m) v (6 + j) = D (6 + j) from if_neg (by omega)]; exact h3 j hj
  · intro j hj; rw [up2_n I _ _ (by omega), show upd D (m) v (12 + j) = D (12 + j) from if_neg (by omega)]; exact h4 j hj
  · intro j hj; rw [up2_n I _ _ (by omega), show upd D (m) v (24 + j) = D (24 + j) from if_neg (by omega)]; exact h5 j hj
  · intro j hj; rw [up2_n I _ _ (by omega), show upd D (m) v (36 + j) = D (36 + j) from if_neg (by omega)]; exact h6 j hj
  · intro j hj; rw [up2_n I _ _ (by omega), show upd D (m) v (44 + j) = D (44 + j) from if_neg (by omega)]; exact h7 j hj
  · rw [up2_n I _ _ (by omega), show upd D (m) v 50 = D 50 from if_neg (by omega)]; exact h8
  · rw [up2_n I _ _ (by omega), livB_n (by omega) 6 (by decide)]; exact h9
theorem DayC_u3 {I : FI} {o m : Nat} {D : DV} {v : Int32} (h : DayC I o D) (hm : m < 6) : DayC (up2 I (o + 3) m v) o (upd D (6 + m) v) := by
  obtain ⟨h1, h2, h3, h4, h5, h6, h7, h8, h9⟩ := h
  refine ⟨?_, ?_, ?_, ?_, ?_, ?_, ?_, ?_, ?_⟩
  · intro j hj; rw [up2_n I _ _ (by omega), show upd D (6 + m) v (18 + j) = D (18 + j) from if_neg (by omega)]; exact h1 j hj
  · intro j hj; rw [up2_n I _ _ (by omega), show upd D (6 + m) v (j) = D (j) from if_neg (by omega)]; exact h2 j hj
  · intro j hj; rw [up2_s]; by_cases e : j = m
    · subst e; simp [upd]
    · rw [show upd (I (o + 3)) m v j = I (o + 3) j from if_neg e, show upd D (6 + m) v (6 + j) = D (6 + j) from if_neg (by omega)]; exact h3 j hj
  · intro j hj; rw [up2_n I _ _ (by omega), show upd D (6 + m) v (12 + j) = D (12 + j) from if_neg (by omega)]; exact h4 j hj
  · intro j hj; rw [up2_n I _ _ (by omega), show upd D (6 + m) v (24 + j) = D (24 + j) from if_neg (by omega)]; exact h5 j hj
  · intro j hj; rw [up2_n I _ _ (by omega), show upd D (6 + m) v (36 + j) = D (36 + j) from if_neg (by omega)]; exact h6 j hj
  · intro j hj; rw [up2_n I _ _ (by omega), show upd D (6 + m) v (44 + j) = D (44 + j) from if_neg (by omega)]; exact h7 j hj
  · rw [up2_n I _ _ (by omega), show upd D (6 + m) v 50 = D 50 from if_neg (by omega)]; exact h8
  · rw [up2_n I _ _ (by omega), livB_n (by omega) 6 (by decide)]; exact h9
theorem DayC_u4 {I : FI} {o m : Nat} {D : DV} {v : Int32} (h : DayC I o D) (hm : m < 6) : DayC (up2 I (o + 4) m v) o (upd D (12 + m) v) := by
  obtain ⟨h1, h2, h3, h4, h5, h6, h7, h8, h9⟩ := h
  refine ⟨?_, ?_, ?_, ?_, ?_, ?_, ?_, ?_, ?_⟩
  · intro j hj; rw [up2_n I _ _ (by omega), show upd D (12 + m) v (18 + j) = D (18 + j) from if_neg (by omega)]; exact h1 j hj
  · intro j hj; rw [up2_n I _ _ (by omega), show upd D (12 + m) v (j) = D (j) from if_neg (by omega)]; exact h2 j hj
  · intro j hj; rw [up2_n I _ _ (by omega), show upd D (12 + m) v (6 + j) = D (6 + j) from if_neg (by omega)]; exact h3 j hj
  · intro j hj; rw [up2_s]; by_cases e : j = m
    · subst e; simp [upd]
    · rw [show upd (I (o + 4)) m v j = I (o + 4) j from if_neg e, show upd D (12 + m) v (12 + j) = D (12 + j) from if_neg (by omega)]; exact h4 j hj
  · intro j hj; rw [up2_n I _ _ (by omega), show upd D (12 + m) v (24 + j) = D (24 + j) from if_neg (by omega)]; exact h5 j hj
  · intro j hj; rw [up2_n I _ _ (by omega), show upd D (12 + m) v (36 + j) = D (36 + j) from if_neg (by omega)]; exact h6 j hj
  · intro j hj; rw [up2_n I _ _ (by omega), show upd D (12 + m) v (44 + j) = D (44 + j) from if_neg (by omega)]; exact h7 j hj
  · rw [up2_n I _ _ (by omega), show upd D (12 + m) v 50 = D 50 from if_neg (by omega)]; exact h8
  · rw [up2_n I _ _ (by omega), livB_n (by omega) 6 (by decide)]; exact h9
theorem DayC_u5 {I : FI} {o m : Nat} {D : DV} {v : Int32} (h : DayC I o D) (hm : m < 6) : DayC (up2 I (o + 5) m v) o (upd D (24 + m) v) := by
  obtain ⟨h1, h2, h3, h4, h5, h6, h7, h8, h9⟩ := h
  refine ⟨?_, ?_, ?_, ?_, ?_, ?_, ?_, ?_, ?_⟩
  · intro j hj; rw [up2_n I _ _ (by omega), show upd D (24 + m) v (18 + j) = D (18 + j) from if_neg (by omega)]; exact h1 j hj
  · intro j hj; rw [up2_n I _ _ (by omega), show upd D (24 + m) v (j) = D (j) from if_neg (by omega)]; exact h2 j hj
  · intro j hj; rw [up2_n I _ _ (by omega), show upd D (24 + m) v (6 + j) = D (6 + j) from if_neg (by omega)]; exact h3 j hj
  · intro j hj; rw [up2_n I _ _ (by omega), show upd D (24 + m) v (12 + j) = D (12 + j) from if_neg (by omega)]; exact h4 j hj
  · intro j hj; rw [up2_s]; by_cases e : j = m
    · subst e; simp [upd]
    · rw [show upd (I (o + 5)) m v j = I (o + 5) j from if_neg e, show upd D (24 + m) v (24 + j) = D (24 + j) from if_neg (by omega)]; exact h5 j hj
  · intro j hj; rw [up2_n I _ _ (by omega), show upd D (24 + m) v (36 + j) = D (36 + j) from if_neg (by omega)]; exact h6 j hj
  · intro j hj; rw [up2_n I _ _ (by omega), show upd D (24 + m) v (44 + j) = D (44 + j) from if_neg (by omega)]; exact h7 j hj
  · rw [up2_n I _ _ (by omega), show upd D (24 + m) v 50 = D 50 from if_neg (by omega)]; exact h8
  · rw [up2_n I _ _ (by omega), livB_n (by omega) 6 (by decide)]; exact h9
theorem DayC_u6 {I : FI} {o m : Nat} {D : DV} {v : Int32} (h : DayC I o D) (hm : m < 8) : DayC (up2 I (o + 6) m v) o (upd D (36 + m) v) := by
  obtain ⟨h1, h2, h3, h4, h5, h6, h7, h8, h9⟩ := h
  refine ⟨?_, ?_, ?_, ?_, ?_, ?_, ?_, ?_, ?_⟩
  · intro j hj; rw [up2_n I _ _ (by omega), show upd D (36 + m) v (18 + j) = D (18 + j) from if_neg (by omega)]; exact h1 j hj
  · intro j hj; rw [up2_n I _ _ (by omega), show upd D (36 + m) v (j) = D (j) from if_neg (by omega)]; exact h2 j hj
  · intro j hj; rw [up2_n I _ _ (by omega), show upd D (36 + m) v (6 + j) = D (6 + j) from if_neg (by omega)]; exact h3 j hj
  · intro j hj; rw [up2_n I _ _ (by omega), show upd D (36 + m) v (12 + j) = D (12 + j) from if_neg (by omega)]; exact h4 j hj
  · intro j hj; rw [up2_n I _ _ (by omega), show upd D (36 + m) v (24 + j) = D (24 + j) from if_neg (by omega)]; exact h5 j hj
  · intro j hj; rw [up2_s]; by_cases e : j = m
    · subst e; simp [upd]
    · rw [show upd (I (o + 6)) m v j = I (o + 6) j from if_neg e, show upd D (36 + m) v (36 + j) = D (36 + j) from if_neg (by omega)]; exact h6 j hj
  · intro j hj; rw [up2_n I _ _ (by omega), show upd D (36 + m) v (44 + j) = D (44 + j) from if_neg (by omega)]; exact h7 j hj
  · rw [up2_n I _ _ (by omega), show upd D (36 + m) v 50 = D 50 from if_neg (by omega)]; exact h8
  · rw [up2_n I _ _ (by omega), livB_n (by omega) 6 (by decide)]; exact h9
theorem DayC_u7 {I : FI} {o m : Nat} {D : DV} {v : Int32} (h : DayC I o D) (hm : m < 6) : DayC (up2 I (o + 7) m v) o (upd D (44 + m) v) := by
  obtain ⟨h1, h2, h3, h4, h5, h6, h7, h8, h9⟩ := h
  refine ⟨?_, ?_, ?_, ?_, ?_, ?_, ?_, ?_, ?_⟩
  · intro j hj; rw [up2_n I _ _ (by omega), show upd D (44 + m) v (18 + j) = D (18 + j) from if_neg (by omega)]; exact h1 j hj
  · intro j hj; rw [up2_n I _ _ (by omega), show upd D (44 + m) v (j) = D (j) from if_neg (by omega)]; exact h2 j hj
  · intro j hj; rw [up2_n I _ _ (by omega), show upd D (44 + m) v (6 + j) = D (6 + j) from if_neg (by omega)]; exact h3 j hj
  · intro j hj; rw [up2_n I _ _ (by omega), show upd D (44 + m) v (12 + j) = D (12 + j) from if_neg (by omega)]; exact h4 j hj
  · intro j hj; rw [up2_n I _ _ (by omega), show upd D (44 + m) v (24 + j) = D (24 + j) from if_neg (by omega)]; exact h5 j hj
  · intro j hj; rw [up2_n I _ _ (by omega), show upd D (44 + m) v (36 + j) = D (36 + j) from if_neg (by omega)]; exact h6 j hj
  · intro j hj; rw [up2_s]; by_cases e : j = m
    · subst e; simp [upd]
    · rw [show upd (I (o + 7)) m v j = I (o + 7) j from if_neg e, show upd D (44 + m) v (44 + j) = D (44 + j) from if_neg (by omega)]; exact h7 j hj
  · rw [up2_n I _ _ (by omega), show upd D (44 + m) v 50 = D 50 from if_neg (by omega)]; exact h8
  · rw [up2_n I _ _ (by omega), livB_n (by omega) 6 (by decide)]; exact h9
theorem DayC_hr {I : FI} {o : Nat} {D : DV} {v : Int32} (h : DayC I o D) : DayC (up2 I o 7 v) o (upd D 50 v) := by
  obtain ⟨h1, h2, h3, h4, h5, h6, h7, h8, h9⟩ := h
  refine ⟨?_, ?_, ?_, ?_, ?_, ?_, ?_, ?_, ?_⟩
  · intro j hj; rw [up2_n I _ _ (by omega), show upd D 50 v (18 + j) = D (18 + j) from if_neg (by omega)]; exact h1 j hj
  · intro j hj; rw [up2_n I _ _ (by omega), show upd D 50 v (j) = D (j) from if_neg (by omega)]; exact h2 j hj
  · intro j hj; rw [up2_n I _ _ (by omega), show upd D 50 v (6 + j) = D (6 + j) from if_neg (by omega)]; exact h3 j hj
  · intro j hj; rw [up2_n I _ _ (by omega), show upd D 50 v (12 + j) = D (12 + j) from if_neg (by omega)]; exact h4 j hj
  · intro j hj; rw [up2_n I _ _ (by omega), show upd D 50 v (24 + j) = D (24 + j) from if_neg (by omega)]; exact h5 j hj
  · intro j hj; rw [up2_n I _ _ (by omega), show upd D 50 v (36 + j) = D (36 + j) from if_neg (by omega)]; exact h6 j hj
  · intro j hj; rw [up2_n I _ _ (by omega), show upd D 50 v (44 + j) = D (44 + j) from if_neg (by omega)]; exact h7 j hj
  · rw [up2_s]; simp [upd]
  · rw [up2_s, show upd (I o) 7 v 8 = I o 8 from if_neg (by decide), livB_n (by omega) 6 (by decide)]; exact h9
theorem DayC_lv {I : FI} {o m : Nat} {D : DV} {v w : Int32} (h : DayC I o D) (hm : m < 6) (hv : livB (upd D (30 + m) w) 6 = v) : DayC (up2 I o 8 v) o (upd D (30 + m) w) := by
  obtain ⟨h1, h2, h3, h4, h5, h6, h7, h8, h9⟩ := h
  refine ⟨?_, ?_, ?_, ?_, ?_, ?_, ?_, ?_, ?_⟩
  · intro j hj; rw [up2_n I _ _ (by omega), show upd D (30 + m) w (18 + j) = D (18 + j) from if_neg (by omega)]; exact h1 j hj
  · intro j hj; rw [up2_n I _ _ (by omega), show upd D (30 + m) w (j) = D (j) from if_neg (by omega)]; exact h2 j hj
  · intro j hj; rw [up2_n I _ _ (by omega), show upd D (30 + m) w (6 + j) = D (6 + j) from if_neg (by omega)]; exact h3 j hj
  · intro j hj; rw [up2_n I _ _ (by omega), show upd D (30 + m) w (12 + j) = D (12 + j) from if_neg (by omega)]; exact h4 j hj
  · intro j hj; rw [up2_n I _ _ (by omega), show upd D (30 + m) w (24 + j) = D (24 + j) from if_neg (by omega)]; exact h5 j hj
  · intro j hj; rw [up2_n I _ _ (by omega), show upd D (30 + m) w (36 + j) = D (36 + j) from if_neg (by omega)]; exact h6 j hj
  · intro j hj; rw [up2_n I _ _ (by omega), show upd D (30 + m) w (44 + j) = D (44 + j) from if_neg (by omega)]; exact h7 j hj
  · rw [up2_s, show upd (I o) 8 v 7 = I o 7 from if_neg (by decide), show upd D (30 + m) w 50 = D 50 from if_neg (by omega)]; exact h8
  · rw [up2_s, hv]; simp [upd]
theorem fl6_off : ∀ b0 b1 b2 b3 b4 b5 : Bool, ∀ m, m < 6 → (((((((((0 : Int32) ||| (fl6 b0 b1 b2 b3 b4 b5 0 <<< (nI 0 &&& 31))) ||| (fl6 b0 b1 b2 b3 b4 b5 1 <<< (nI 1 &&& 31))) ||| (fl6 b0 b1 b2 b3 b4 b5 2 <<< (nI 2 &&& 31))) ||| (fl6 b0 b1 b2 b3 b4 b5 3 <<< (nI 3 &&& 31))) ||| (fl6 b0 b1 b2 b3 b4 b5 4 <<< (nI 4 &&& 31))) ||| (fl6 b0 b1 b2 b3 b4 b5 5 <<< (nI 5 &&& 31))) &&& (((1 : Int32) <<< (nI m &&& 31)) ^^^ (-1)))) = ((((((0 : Int32) ||| ((if 0 = m then 0 else fl6 b0 b1 b2 b3 b4 b5 0) <<< (nI 0 &&& 31))) ||| ((if 1 = m then 0 else fl6 b0 b1 b2 b3 b4 b5 1) <<< (nI 1 &&& 31))) ||| ((if 2 = m then 0 else fl6 b0 b1 b2 b3 b4 b5 2) <<< (nI 2 &&& 31))) ||| ((if 3 = m then 0 else fl6 b0 b1 b2 b3 b4 b5 3) <<< (nI 3 &&& 31))) ||| ((if 4 = m then 0 else fl6 b0 b1 b2 b3 b4 b5 4) <<< (nI 4 &&& 31))) ||| ((if 5 = m then 0 else fl6 b0 b1 b2 b3 b4 b5 5) <<< (nI 5 &&& 31)) := by decide +kernel
theorem livB_off {D : DV} (h : Flg D) {m : Nat} (hm : m < 6) : livB (upd D (30 + m) 0) 6 = livB D 6 &&& (((1 : Int32) <<< (nI m &&& 31)) ^^^ (-1)) := by
  obtain ⟨b0, b1, b2, b3, b4, b5, e⟩ := h.six
  have key := fl6_off b0 b1 b2 b3 b4 b5 m hm
  have hu : ∀ j, j < 6 → upd D (30 + m) 0 (30 + j) = if j = m then 0 else fl6 b0 b1 b2 b3 b4 b5 j := by
    intro j hj
    by_cases c : j = m
    · subst c; simp [upd]
    · rw [if_neg c, show upd D (30 + m) 0 (30 + j) = D (30 + j) from if_neg (by omega)]; exact e j hj
  simp only [livB]
  rw [show upd D (30 + m) 0 (30 + 0) = _ from hu 0 (by decide), show upd D (30 + m) 0 (30 + 1) = _ from hu 1 (by decide), show upd D (30 + m) 0 (30 + 2) = _ from hu 2 (by decide), show upd D (30 + m) 0 (30 + 3) = _ from hu 3 (by decide), show upd D (30 + m) 0 (30 + 4) = _ from hu 4 (by decide), show upd D (30 + m) 0 (30 + 5) = _ from hu 5 (by decide)]
  rw [← key, show D (30 + 0) = _ from e 0 (by decide), show D (30 + 1) = _ from e 1 (by decide), show D (30 + 2) = _ from e 2 (by decide), show D (30 + 3) = _ from e 3 (by decide), show D (30 + 4) = _ from e 4 (by decide), show D (30 + 5) = _ from e 5 (by decide)]
theorem Flg.u {D : DV} (h : Flg D) {k : Nat} {v : Int32} (hk : (k < 30 ∨ 36 ≤ k) ∨ v = 0) : Flg (upd D k v) := by
  intro m hm
  by_cases c : 30 + m = k
  · subst c; left; simp [upd]; rcases hk with q | q
    · omega
    · exact q
  · rw [show upd D k v (30 + m) = D (30 + m) from if_neg c]; exact h m hm
/-- a number, or -1 for none -/
def nOf (x : Int32) : Option Nat := if x = -1 then none else some x.toNatClampNeg
theorem nOf_n {j : Nat} (h : j < 2 ^ 31) : nOf (nI j) = some j := by
  unfold nOf
  rw [if_neg (by intro e; have := congrArg Int32.toInt e; rw [nI_toInt h] at this; exact absurd this (by simp)), nI_clamp h]
theorem nI_ne {j : Nat} (h : j < 2 ^ 31) : ¬ nI j = -1 := by
  intro e; have := congrArg Int32.toInt e; rw [nI_toInt h] at this; exact absurd this (by simp)
/-- what the STEPS do to a day -/
def dHome (D : DV) (m : Nat) : DV := if D (6 + m) = -1 then D else upd (upd D (6 + m) (-1)) (12 + m) 0
def dDie0 (D : DV) (m : Nat) : DV := dHome (upd (upd D (30 + m) 0) m (-1)) m
/-- a death with its heir (k: the heir's number, or none) -/
def dDie (D : DV) (m : Nat) (k : Option Nat) : DV := match k with
  | none => dDie0 D m
  | some j => if dDie0 D m (30 + j) = 1 ∧ dDie0 D m j = -1 then upd (dDie0 D m) j (D m) else dDie0 D m
def oI (k : Option Nat) : Int32 := match k with
  | none => -1
  | some j => nI j
def dTake (D : DV) (m : Nat) (r : Int32) : DV := match nOf (D (6 + m)) with
  | none => D
  | some g => upd (upd (upd D (44 + g) (D (44 + g) - (if 9 - r / 10 < D (44 + g) then 9 - r / 10 else D (44 + g)))) (24 + m) (D (24 + m) + (if 9 - r / 10 < D (44 + g) then 9 - r / 10 else D (44 + g)))) (12 + m) (D (12 + m) + 1)
theorem c_X3_fishBy {G : Gx} {d : Nat} {I : FI} {R : FR} {J : FJ} {Q : Po} {r : Int32} (hq : Q (.inl (some (.int (9 - r / 10)))) 103 I R J) : Cc G mX3_fishBy d 0 0 [.int r] 103 I R J Q := by
  show V _ _ _ _ _ _ _ _ [(0, .int r)] [] _ _ _ _ _
  refine V_bipush 2 (9) rfl dX3_fishBy_0 rfl ?_
  refine V_iload_n 3 0 rfl rfl dX3_fishBy_2 rfl ?_
  refine V_bipush 5 (10) rfl dX3_fishBy_3 rfl ?_
  refine V_idiv 6 (by decide) dX3_fishBy_5 rfl ?_
  refine V_isub 7 dX3_fishBy_6 rfl ?_
  refine V_ret_i rfl rfl (Nat.le_refl _) (fun h => absurd h (by decide)) (Nat.le_refl _) (hq) dX3_fishBy_7
set_option maxHeartbeats 4000000 in
theorem c_X3_doff_18 {G : Gx} {d : Nat} {I : FI} {R : FR} {J : FJ} {Q : Po} (hRK : RK R) {D : DV} {m : Nat} (hD : DayC I 18 D) (hm : m < 6) (h0 : D m = -1 → Q (.inl (some (.int 0))) 103 I R J) (h1 : ¬ D m = -1 → ∀ I', DayC I' 18 (upd D m (-1)) → FrC I I' 18 → Q (.inl (some (.int 1))) 103 I' R J) : Cc G mX3_doff d 0 0 [rf G 18, .int (nI m)] 103 I R J Q := by
  show V _ _ _ _ _ _ _ _ [(0, rf G 18), (1, .int (nI m))] [] _ _ _ _ _
  refine V_aload_n 1 0 rfl _ rfl rfl dX3_doff_0 rfl ?_
  refine V_getR 4 18 3 1 20 (hRK 18 1 (by decide) (by decide) (by decide)) flX3_15 rfl rfl rfl (by decide) dX3_doff_1 rfl ?_
  refine V_iload_n 5 1 rfl rfl dX3_doff_4 rfl ?_
  refine V_ialdN 6 20 6 m (D m) (hD.2.1 m hm) (by omega) (by decide) rfl (by decide) dX3_doff_5 rfl ?_
  refine V_iconst 7 (-1) rfl dX3_doff_6 rfl ?_
  refine V_icmp_ne 12 10 rfl dX3_doff_7 rfl (fun c7 => ?_) (fun c7 => ?_)
  · refine V_aload_n 13 0 rfl _ rfl rfl dX3_doff_12 rfl ?_
    refine V_getR 16 18 3 1 20 (hRK 18 1 (by decide) (by decide) (by decide)) flX3_15 rfl rfl rfl (by decide) dX3_doff_13 rfl ?_
    refine V_iload_n 17 1 rfl rfl dX3_doff_16 rfl ?_
    refine V_iconst 18 (-1) rfl dX3_doff_17 rfl ?_
    refine V_iastN 19 20 6 m (by omega) (by decide) rfl (by decide) dX3_doff_18 rfl ?_
    refine V_iconst 20 (1) rfl dX3_doff_19 rfl ?_
    refine V_ret_i rfl (by first | rfl | decide) (Nat.le_refl _) (fun h => absurd h (by decide)) (Nat.le_refl _) (h1 c7 _ (DayC_u2 hD hm) (FrC.rf.up (by decide) (by decide))) dX3_doff_20
  · refine V_iconst 11 (0) rfl dX3_doff_10 rfl ?_
    refine V_ret_i rfl (by first | rfl | decide) (Nat.le_refl _) (fun h => absurd h (by decide)) (Nat.le_refl _) (h0 c7) dX3_doff_11
set_option maxHeartbeats 4000000 in
theorem c_X3_oil_18 {G : Gx} {d : Nat} {I : FI} {R : FR} {J : FJ} {Q : Po} (hRK : RK R) {D : DV} {m : Nat} (hD : DayC I 18 D) (hm : m < 8) (h0 : ¬ D (36 + m) < 9 → Q (.inl (some (.int 0))) 103 I R J) (h1 : D (36 + m) < 9 → ∀ I', DayC I' 18 (upd D (36 + m) (D (36 + m) + 1)) → FrC I I' 18 → Q (.inl (some (.int 1))) 103 I' R J) : Cc G mX3_oil d 0 0 [rf G 18, .int (nI m)] 103 I R J Q := by
  show V _ _ _ _ _ _ _ _ [(0, rf G 18), (1, .int (nI m))] [] _ _ _ _ _
  refine V_aload_n 1 0 rfl _ rfl rfl dX3_oil_0 rfl ?_
  refine V_getR 4 18 3 5 24 (hRK 18 5 (by decide) (by decide) (by decide)) flX3_27 rfl rfl rfl (by decide) dX3_oil_1 rfl ?_
  refine V_iload_n 5 1 rfl rfl dX3_oil_4 rfl ?_
  refine V_ialdN 6 24 8 m (D (36 + m)) (hD.2.2.2.2.2.1 m hm) (by omega) (by decide) rfl (by decide) dX3_oil_5 rfl ?_
  refine V_bipush 8 (9) rfl dX3_oil_6 rfl ?_
  refine V_icmp_lt 13 11 rfl dX3_oil_8 rfl (fun c8 => ?_) (fun c8 => ?_)
  · refine V_aload_n 14 0 rfl _ rfl rfl dX3_oil_13 rfl ?_
    refine V_getR 17 18 3 5 24 (hRK 18 5 (by decide) (by decide) (by decide)) flX3_27 rfl rfl rfl (by decide) dX3_oil_14 rfl ?_
    refine V_iload_n 18 1 rfl rfl dX3_oil_17 rfl ?_
    refine V_dup2 19 rfl rfl dX3_oil_18 rfl ?_
    refine V_ialdN 20 24 8 m (D (36 + m)) (hD.2.2.2.2.2.1 m hm) (by omega) (by decide) rfl (by decide) dX3_oil_19 rfl ?_
    refine V_iconst 21 (1) rfl dX3_oil_20 rfl ?_
    refine V_iadd 22 dX3_oil_21 rfl ?_
    refine V_iastN 23 24 8 m (by omega) (by decide) rfl (by decide) dX3_oil_22 rfl ?_
    refine V_iconst 24 (1) rfl dX3_oil_23 rfl ?_
    refine V_ret_i rfl (by first | rfl | decide) (Nat.le_refl _) (fun h => absurd h (by decide)) (Nat.le_refl _) (h1 c8 _ (DayC_u6 hD hm) (FrC.rf.up (by decide) (by decide))) dX3_oil_24
  · refine V_iconst 12 (0) rfl dX3_oil_11 rfl ?_
    refine V_ret_i rfl (by first | rfl | decide) (Nat.le_refl _) (fun h => absurd h (by decide)) (Nat.le_refl _) (h0 c8) dX3_oil_12
set_option maxHeartbeats 4000000 in
theorem c_X3_goHome_18 {G : Gx} {d : Nat} {I : FI} {R : FR} {J : FJ} {Q : Po} (hRK : RK R) {D : DV} {m : Nat} (hD : DayC I 18 D) (hm : m < 6) (h0 : D (6 + m) = -1 → Q (.inl (some (.int 0))) 103 I R J) (h1 : ¬ D (6 + m) = -1 → ∀ I', DayC I' 18 (dHome D m) → FrC I I' 18 → Q (.inl (some (.int 1))) 103 I' R J) : Cc G mX3_goHome d 0 0 [rf G 18, .int (nI m)] 103 I R J Q := by
  show V _ _ _ _ _ _ _ _ [(0, rf G 18), (1, .int (nI m))] [] _ _ _ _ _
  refine V_aload_n 1 0 rfl _ rfl rfl dX3_goHome_0 rfl ?_
  refine V_getR 4 18 3 2 21 (hRK 18 2 (by decide) (by decide) (by decide)) flX3_18 rfl rfl rfl (by decide) dX3_goHome_1 rfl ?_
  refine V_iload_n 5 1 rfl rfl dX3_goHome_4 rfl ?_
  refine V_ialdN 6 21 6 m (D (6 + m)) (hD.2.2.1 m hm) (by omega) (by decide) rfl (by decide) dX3_goHome_5 rfl ?_
  refine V_iconst 7 (-1) rfl dX3_goHome_6 rfl ?_
  refine V_icmp_ne 12 10 rfl dX3_goHome_7 rfl (fun c7 => ?_) (fun c7 => ?_)
  · refine V_aload_n 13 0 rfl _ rfl rfl dX3_goHome_12 rfl ?_
    refine V_getR 16 18 3 2 21 (hRK 18 2 (by decide) (by decide) (by decide)) flX3_18 rfl rfl rfl (by decide) dX3_goHome_13 rfl ?_
    refine V_iload_n 17 1 rfl rfl dX3_goHome_16 rfl ?_
    refine V_iconst 18 (-1) rfl dX3_goHome_17 rfl ?_
    refine V_iastN 19 21 6 m (by omega) (by decide) rfl (by decide) dX3_goHome_18 rfl ?_
    refine V_aload_n 20 0 rfl _ rfl rfl dX3_goHome_19 rfl ?_
    refine V_getR 23 18 3 3 22 (hRK 18 3 (by decide) (by decide) (by decide)) flX3_21 rfl rfl rfl (by decide) dX3_goHome_20 rfl ?_
    refine V_iload_n 24 1 rfl rfl dX3_goHome_23 rfl ?_
    refine V_iconst 25 (0) rfl dX3_goHome_24 rfl ?_
    refine V_iastN 26 22 6 m (by omega) (by decide) rfl (by decide) dX3_goHome_25 rfl ?_
    refine V_iconst 27 (1) rfl dX3_goHome_26 rfl ?_
    refine V_ret_i rfl (by first | rfl | decide) (Nat.le_refl _) (fun h => absurd h (by decide)) (Nat.le_refl _) (h1 c7 _ (by rw [dHome, if_neg c7]; exact DayC_u4 (DayC_u3 hD hm) hm) ((FrC.rf.up (by decide) (by decide)).up (by decide) (by decide))) dX3_goHome_27
  · refine V_iconst 11 (0) rfl dX3_goHome_10 rfl ?_
    refine V_ret_i rfl (by first | rfl | decide) (Nat.le_refl _) (fun h => absurd h (by decide)) (Nat.le_refl _) (h0 c7) dX3_goHome_11
set_option maxHeartbeats 4000000 in
theorem c_X3_wear_18 {G : Gx} {d : Nat} {I : FI} {R : FR} {J : FJ} {Q : Po} (hRK : RK R) {D : DV} {m h : Nat} (hD : DayC I 18 D) (hF : Flg D) (hm : m < 6) (h0 : ¬ (D (30 + m) = 1 ∧ wearF D (nI h) 6 0 = -1) → Q (.inl (some (.int 0))) 103 I R J) (h1 : D (30 + m) = 1 → wearF D (nI h) 6 0 = -1 → ∀ I', DayC I' 18 (upd D m (nI h)) → FrC I I' 18 → Q (.inl (some (.int 1))) 103 I' R J) : Cc G mX3_wear (d + 1) 0 0 [rf G 18, .int (nI m), .int (nI h)] 103 I R J Q := by
  show V _ _ _ _ _ _ _ _ [(0, rf G 18), (1, .int (nI m)), (2, .int (nI h))] [] _ _ _ _ _
  refine V_aload_n 1 0 rfl _ rfl rfl dX3_wear_0 rfl ?_
  refine V_iload_n 2 1 rfl rfl dX3_wear_1 rfl ?_
  refine V_callV (K' := 0) (S' := 0) 5 18 3 1 [.int (nI m)] mkX3_lives lkX3_72 (by decide) rfl rfl (by decide) rfl (Nat.le_of_ble_eq_true rfl) (Nat.le_of_ble_eq_true rfl) (Nat.le_of_ble_eq_true rfl) (Nat.le_of_ble_eq_true rfl) rfl rfl dX3_wear_2 rfl (c_X3_lives_18 hRK hD hF hm (fun e1 => ?_) (fun e1 => ?_))
  · refine Kq_i (k' := 0) (sl' := 0) rfl rfl ?_
    refine V_if_eq 17 8 rfl dX3_wear_5 rfl (fun c5 => absurd c5 (by decide)) (fun c5 => ?_)
    refine V_aload_n 9 0 rfl _ rfl rfl dX3_wear_8 rfl ?_
    refine V_iload_n 10 2 rfl rfl dX3_wear_9 rfl ?_
    refine V_callV (K' := 0) (S' := 0) 13 18 3 1 [.int (nI h)] mkX3_wearerOf lkX3_76 (by decide) rfl rfl (by decide) rfl (Nat.le_of_ble_eq_true rfl) (Nat.le_of_ble_eq_true rfl) (Nat.le_of_ble_eq_true rfl) (Nat.le_of_ble_eq_true rfl) rfl rfl dX3_wear_10 rfl (c_X3_wearerOf_18 hRK hD ?_)
    refine Kq_i (k' := 0) (sl' := 0) rfl rfl ?_
    refine V_iconst 14 (-1) rfl dX3_wear_13 rfl ?_
    refine V_icmp_eq 19 17 rfl dX3_wear_14 rfl (fun c14 => ?_) (fun c14 => ?_)
    · refine V_aload_n 20 0 rfl _ rfl rfl dX3_wear_19 rfl ?_
      refine V_getR 23 18 3 1 20 (hRK 18 1 (by decide) (by decide) (by decide)) flX3_15 rfl rfl rfl (by decide) dX3_wear_20 rfl ?_
      refine V_iload_n 24 1 rfl rfl dX3_wear_23 rfl ?_
      refine V_iload_n 25 2 rfl rfl dX3_wear_24 rfl ?_
      refine V_iastN 26 20 6 m (by omega) (by decide) rfl (by decide) dX3_wear_25 rfl ?_
      refine V_iconst 27 (1) rfl dX3_wear_26 rfl ?_
      refine V_ret_i rfl (by first | rfl | decide) (Nat.le_refl _) (fun h => absurd h (by decide)) (Nat.le_refl _) (h1 e1 c14 _ (DayC_u2 hD hm) (FrC.rf.up (by decide) (by decide))) dX3_wear_27
    · refine V_iconst 18 (0) rfl dX3_wear_17 rfl ?_
      refine V_ret_i rfl (by first | rfl | decide) (Nat.le_refl _) (fun h => absurd h (by decide)) (Nat.le_refl _) (h0 (fun q => by first | exact c14 q.2 | (rw [e1] at q; exact absurd q.1 (by decide)))) dX3_wear_18
  · refine Kq_i (k' := 0) (sl' := 0) rfl rfl ?_
    refine V_if_eq 17 8 rfl dX3_wear_5 rfl (fun c5 => ?_) (fun c5 => absurd c5 (by decide))
    refine V_iconst 18 (0) rfl dX3_wear_17 rfl ?_
    refine V_ret_i rfl (by first | rfl | decide) (Nat.le_refl _) (fun h => absurd h (by decide)) (Nat.le_refl _) (h0 (fun q => by first | exact c14 q.2 | (rw [e1] at q; exact absurd q.1 (by decide)))) dX3_wear_18
set_option maxHeartbeats 4000000 in
theorem c_X3_sail_18 {G : Gx} {d : Nat} {I : FI} {R : FR} {J : FJ} {Q : Po} (hRK : RK R) {D : DV} {m g : Nat} (hD : DayC I 18 D) (hF : Flg D) (hm : m < 6) (h0 : ¬ (D (30 + m) = 1 ∧ ¬ D (6 + m) = nI g ∧ ¬ D m = -1) → Q (.inl (some (.int 0))) 103 I R J) (h1 : D (30 + m) = 1 → ¬ D (6 + m) = nI g → ¬ D m = -1 → ∀ I', DayC I' 18 (upd (upd D (6 + m) (nI g)) (12 + m) 0) → FrC I I' 18 → Q (.inl (some (.int 1))) 103 I' R J) : Cc G mX3_sail (d + 1) 0 0 [rf G 18, .int (nI m), .int (nI g)] 103 I R J Q := by
  show V _ _ _ _ _ _ _ _ [(0, rf G 18), (1, .int (nI m)), (2, .int (nI g))] [] _ _ _ _ _
  refine V_aload_n 1 0 rfl _ rfl rfl dX3_sail_0 rfl ?_
  refine V_iload_n 2 1 rfl rfl dX3_sail_1 rfl ?_
  refine V_callV (K' := 0) (S' := 0) 5 18 3 1 [.int (nI m)] mkX3_lives lkX3_72 (by decide) rfl rfl (by decide) rfl (Nat.le_of_ble_eq_true rfl) (Nat.le_of_ble_eq_true rfl) (Nat.le_of_ble_eq_true rfl) (Nat.le_of_ble_eq_true rfl) rfl rfl dX3_sail_2 rfl (c_X3_lives_18 hRK hD hF hm (fun e1 => ?_) (fun e1 => ?_))
  · refine Kq_i (k' := 0) (sl' := 0) rfl rfl ?_
    refine V_if_eq 28 8 rfl dX3_sail_5 rfl (fun c5 => absurd c5 (by decide)) (fun c5 => ?_)
    refine V_aload_n 9 0 rfl _ rfl rfl dX3_sail_8 rfl ?_
    refine V_getR 12 18 3 2 21 (hRK 18 2 (by decide) (by decide) (by decide)) flX3_18 rfl rfl rfl (by decide) dX3_sail_9 rfl ?_
    refine V_iload_n 13 1 rfl rfl dX3_sail_12 rfl ?_
    refine V_ialdN 14 21 6 m (D (6 + m)) (hD.2.2.1 m hm) (by omega) (by decide) rfl (by decide) dX3_sail_13 rfl ?_
    refine V_iload_n 15 2 rfl rfl dX3_sail_14 rfl ?_
    refine V_icmp_eq 28 18 rfl dX3_sail_15 rfl (fun c15 => ?_) (fun c15 => ?_)
    · refine V_iconst 29 (0) rfl dX3_sail_28 rfl ?_
      refine V_ret_i rfl (by first | rfl | decide) (Nat.le_refl _) (fun h => absurd h (by decide)) (Nat.le_refl _) (h0 (fun q => by first | exact q.2.2 c25 | exact q.2.1 c15 | (rw [e1] at q; exact absurd q.1 (by decide)))) dX3_sail_29
    · refine V_aload_n 19 0 rfl _ rfl rfl dX3_sail_18 rfl ?_
      refine V_getR 22 18 3 1 20 (hRK 18 1 (by decide) (by decide) (by decide)) flX3_15 rfl rfl rfl (by decide) dX3_sail_19 rfl ?_
      refine V_iload_n 23 1 rfl rfl dX3_sail_22 rfl ?_
      refine V_ialdN 24 20 6 m (D m) (hD.2.1 m hm) (by omega) (by decide) rfl (by decide) dX3_sail_23 rfl ?_
      refine V_iconst 25 (-1) rfl dX3_sail_24 rfl ?_
      refine V_icmp_ne 30 28 rfl dX3_sail_25 rfl (fun c25 => ?_) (fun c25 => ?_)
      · refine V_aload_n 31 0 rfl _ rfl rfl dX3_sail_30 rfl ?_
        refine V_getR 34 18 3 2 21 (hRK 18 2 (by decide) (by decide) (by decide)) flX3_18 rfl rfl rfl (by decide) dX3_sail_31 rfl ?_
        refine V_iload_n 35 1 rfl rfl dX3_sail_34 rfl ?_
        refine V_iload_n 36 2 rfl rfl dX3_sail_35 rfl ?_
        refine V_iastN 37 21 6 m (by omega) (by decide) rfl (by decide) dX3_sail_36 rfl ?_
        refine V_aload_n 38 0 rfl _ rfl rfl dX3_sail_37 rfl ?_
        refine V_getR 41 18 3 3 22 (hRK 18 3 (by decide) (by decide) (by decide)) flX3_21 rfl rfl rfl (by decide) dX3_sail_38 rfl ?_
        refine V_iload_n 42 1 rfl rfl dX3_sail_41 rfl ?_
        refine V_iconst 43 (0) rfl dX3_sail_42 rfl ?_
        refine V_iastN 44 22 6 m (by omega) (by decide) rfl (by decide) dX3_sail_43 rfl ?_
        refine V_iconst 45 (1) rfl dX3_sail_44 rfl ?_
        refine V_ret_i rfl (by first | rfl | decide) (Nat.le_refl _) (fun h => absurd h (by decide)) (Nat.le_refl _) (h1 e1 c15 c25 _ (DayC_u4 (DayC_u3 hD hm) hm) ((FrC.rf.up (by decide) (by decide)).up (by decide) (by decide))) dX3_sail_45
      · refine V_iconst 29 (0) rfl dX3_sail_28 rfl ?_
        refine V_ret_i rfl (by first | rfl | decide) (Nat.le_refl _) (fun h => absurd h (by decide)) (Nat.le_refl _) (h0 (fun q => by first | exact q.2.2 c25 | exact q.2.1 c15 | (rw [e1] at q; exact absurd q.1 (by decide)))) dX3_sail_29
  · refine Kq_i (k' := 0) (sl' := 0) rfl rfl ?_
    refine V_if_eq 28 8 rfl dX3_sail_5 rfl (fun c5 => ?_) (fun c5 => absurd c5 (by decide))
    refine V_iconst 29 (0) rfl dX3_sail_28 rfl ?_
    refine V_ret_i rfl (by first | rfl | decide) (Nat.le_refl _) (fun h => absurd h (by decide)) (Nat.le_refl _) (h0 (fun q => by first | exact q.2.2 c25 | exact q.2.1 c15 | (rw [e1] at q; exact absurd q.1 (by decide)))) dX3_sail_29
set_option maxHeartbeats 4000000 in
theorem c_X3_doff_26 {G : Gx} {d : Nat} {I : FI} {R : FR} {J : FJ} {Q : Po} (hRK : RK R) {D : DV} {m : Nat} (hD : DayC I 26 D) (hm : m < 6) (h0 : D m = -1 → Q (.inl (some (.int 0))) 103 I R J) (h1 : ¬ D m = -1 → ∀ I', DayC I' 26 (upd D m (-1)) → FrC I I' 26 → Q (.inl (some (.int 1))) 103 I' R J) : Cc G mX3_doff d 0 0 [rf G 26, .int (nI m)] 103 I R J Q := by
  show V _ _ _ _ _ _ _ _ [(0, rf G 26), (1, .int (nI m))] [] _ _ _ _ _
  refine V_aload_n 1 0 rfl _ rfl rfl dX3_doff_0 rfl ?_
  refine V_getR 4 26 3 1 28 (hRK 26 1 (by decide) (by decide) (by decide)) flX3_15 rfl rfl rfl (by decide) dX3_doff_1 rfl ?_
  refine V_iload_n 5 1 rfl rfl dX3_doff_4 rfl ?_
  refine V_ialdN 6 28 6 m (D m) (hD.2.1 m hm) (by omega) (by decide) rfl (by decide) dX3_doff_5 rfl ?_
  refine V_iconst 7 (-1) rfl dX3_doff_6 rfl ?_
  refine V_icmp_ne 12 10 rfl dX3_doff_7 rfl (fun c7 => ?_) (fun c7 => ?_)
  · refine V_aload_n 13 0 rfl _ rfl rfl dX3_doff_12 rfl ?_
    refine V_getR 16 26 3 1 28 (hRK 26 1 (by decide) (by decide) (by decide)) flX3_15 rfl rfl rfl (by decide) dX3_doff_13 rfl ?_
    refine V_iload_n 17 1 rfl rfl dX3_doff_16 rfl ?_
    refine V_iconst 18 (-1) rfl dX3_doff_17 rfl ?_
    refine V_iastN 19 28 6 m (by omega) (by decide) rfl (by decide) dX3_doff_18 rfl ?_
    refine V_iconst 20 (1) rfl dX3_doff_19 rfl ?_
    refine V_ret_i rfl (by first | rfl | decide) (Nat.le_refl _) (fun h => absurd h (by decide)) (Nat.le_refl _) (h1 c7 _ (DayC_u2 hD hm) (FrC.rf.up (by decide) (by decide))) dX3_doff_20
  · refine V_iconst 11 (0) rfl dX3_doff_10 rfl ?_
    refine V_ret_i rfl (by first | rfl | decide) (Nat.le_refl _) (fun h => absurd h (by decide)) (Nat.le_refl _) (h0 c7) dX3_doff_11
set_option maxHeartbeats 4000000 in
theorem c_X3_oil_26 {G : Gx} {d : Nat} {I : FI} {R : FR} {J : FJ} {Q : Po} (hRK : RK R) {D : DV} {m : Nat} (hD : DayC I 26 D) (hm : m < 8) (h0 : ¬ D (36 + m) < 9 → Q (.inl (some (.int 0))) 103 I R J) (h1 : D (36 + m) < 9 → ∀ I', DayC I' 26 (upd D (36 + m) (D (36 + m) + 1)) → FrC I I' 26 → Q (.inl (some (.int 1))) 103 I' R J) : Cc G mX3_oil d 0 0 [rf G 26, .int (nI m)] 103 I R J Q := by
  show V _ _ _ _ _ _ _ _ [(0, rf G 26), (1, .int (nI m))] [] _ _ _ _ _
  refine V_aload_n 1 0 rfl _ rfl rfl dX3_oil_0 rfl ?_
  refine V_getR 4 26 3 5 32 (hRK 26 5 (by decide) (by decide) (by decide)) flX3_27 rfl rfl rfl (by decide) dX3_oil_1 rfl ?_
  refine V_iload_n 5 1 rfl rfl dX3_oil_4 rfl ?_
  refine V_ialdN 6 32 8 m (D (36 + m)) (hD.2.2.2.2.2.1 m hm) (by omega) (by decide) rfl (by decide) dX3_oil_5 rfl ?_
  refine V_bipush 8 (9) rfl dX3_oil_6 rfl ?_
  refine V_icmp_lt 13 11 rfl dX3_oil_8 rfl (fun c8 => ?_) (fun c8 => ?_)
  · refine V_aload_n 14 0 rfl _ rfl rfl dX3_oil_13 rfl ?_
    refine V_getR 17 26 3 5 32 (hRK 26 5 (by decide) (by decide) (by decide)) flX3_27 rfl rfl rfl (by decide) dX3_oil_14 rfl ?_
    refine V_iload_n 18 1 rfl rfl dX3_oil_17 rfl ?_
    refine V_dup2 19 rfl rfl dX3_oil_18 rfl ?_
    refine V_ialdN 20 32 8 m (D (36 + m)) (hD.2.2.2.2.2.1 m hm) (by omega) (by decide) rfl (by decide) dX3_oil_19 rfl ?_
    refine V_iconst 21 (1) rfl dX3_oil_20 rfl ?_
    refine V_iadd 22 dX3_oil_21 rfl ?_
    refine V_iastN 23 32 8 m (by omega) (by decide) rfl (by decide) dX3_oil_22 rfl ?_
    refine V_iconst 24 (1) rfl dX3_oil_23 rfl ?_
    refine V_ret_i rfl (by first | rfl | decide) (Nat.le_refl _) (fun h => absurd h (by decide)) (Nat.le_refl _) (h1 c8 _ (DayC_u6 hD hm) (FrC.rf.up (by decide) (by decide))) dX3_oil_24
  · refine V_iconst 12 (0) rfl dX3_oil_11 rfl ?_
    refine V_ret_i rfl (by first | rfl | decide) (Nat.le_refl _) (fun h => absurd h (by decide)) (Nat.le_refl _) (h0 c8) dX3_oil_12
set_option maxHeartbeats 4000000 in
theorem c_X3_goHome_26 {G : Gx} {d : Nat} {I : FI} {R : FR} {J : FJ} {Q : Po} (hRK : RK R) {D : DV} {m : Nat} (hD : DayC I 26 D) (hm : m < 6) (h0 : D (6 + m) = -1 → Q (.inl (some (.int 0))) 103 I R J) (h1 : ¬ D (6 + m) = -1 → ∀ I', DayC I' 26 (dHome D m) → FrC I I' 26 → Q (.inl (some (.int 1))) 103 I' R J) : Cc G mX3_goHome d 0 0 [rf G 26, .int (nI m)] 103 I R J Q := by
  show V _ _ _ _ _ _ _ _ [(0, rf G 26), (1, .int (nI m))] [] _ _ _ _ _
  refine V_aload_n 1 0 rfl _ rfl rfl dX3_goHome_0 rfl ?_
  refine V_getR 4 26 3 2 29 (hRK 26 2 (by decide) (by decide) (by decide)) flX3_18 rfl rfl rfl (by decide) dX3_goHome_1 rfl ?_
  refine V_iload_n 5 1 rfl rfl dX3_goHome_4 rfl ?_
  refine V_ialdN 6 29 6 m (D (6 + m)) (hD.2.2.1 m hm) (by omega) (by decide) rfl (by decide) dX3_goHome_5 rfl ?_
  refine V_iconst 7 (-1) rfl dX3_goHome_6 rfl ?_
  refine V_icmp_ne 12 10 rfl dX3_goHome_7 rfl (fun c7 => ?_) (fun c7 => ?_)
  · refine V_aload_n 13 0 rfl _ rfl rfl dX3_goHome_12 rfl ?_
    refine V_getR 16 26 3 2 29 (hRK 26 2 (by decide) (by decide) (by decide)) flX3_18 rfl rfl rfl (by decide) dX3_goHome_13 rfl ?_
    refine V_iload_n 17 1 rfl rfl dX3_goHome_16 rfl ?_
    refine V_iconst 18 (-1) rfl dX3_goHome_17 rfl ?_
    refine V_iastN 19 29 6 m (by omega) (by decide) rfl (by decide) dX3_goHome_18 rfl ?_
    refine V_aload_n 20 0 rfl _ rfl rfl dX3_goHome_19 rfl ?_
    refine V_getR 23 26 3 3 30 (hRK 26 3 (by decide) (by decide) (by decide)) flX3_21 rfl rfl rfl (by decide) dX3_goHome_20 rfl ?_
    refine V_iload_n 24 1 rfl rfl dX3_goHome_23 rfl ?_
    refine V_iconst 25 (0) rfl dX3_goHome_24 rfl ?_
    refine V_iastN 26 30 6 m (by omega) (by decide) rfl (by decide) dX3_goHome_25 rfl ?_
    refine V_iconst 27 (1) rfl dX3_goHome_26 rfl ?_
    refine V_ret_i rfl (by first | rfl | decide) (Nat.le_refl _) (fun h => absurd h (by decide)) (Nat.le_refl _) (h1 c7 _ (by rw [dHome, if_neg c7]; exact DayC_u4 (DayC_u3 hD hm) hm) ((FrC.rf.up (by decide) (by decide)).up (by decide) (by decide))) dX3_goHome_27
  · refine V_iconst 11 (0) rfl dX3_goHome_10 rfl ?_
    refine V_ret_i rfl (by first | rfl | decide) (Nat.le_refl _) (fun h => absurd h (by decide)) (Nat.le_refl _) (h0 c7) dX3_goHome_11
set_option maxHeartbeats 4000000 in
theorem c_X3_wear_26 {G : Gx} {d : Nat} {I : FI} {R : FR} {J : FJ} {Q : Po} (hRK : RK R) {D : DV} {m h : Nat} (hD : DayC I 26 D) (hF : Flg D) (hm : m < 6) (h0 : ¬ (D (30 + m) = 1 ∧ wearF D (nI h) 6 0 = -1) → Q (.inl (some (.int 0))) 103 I R J) (h1 : D (30 + m) = 1 → wearF D (nI h) 6 0 = -1 → ∀ I', DayC I' 26 (upd D m (nI h)) → FrC I I' 26 → Q (.inl (some (.int 1))) 103 I' R J) : Cc G mX3_wear (d + 1) 0 0 [rf G 26, .int (nI m), .int (nI h)] 103 I R J Q := by
  show V _ _ _ _ _ _ _ _ [(0, rf G 26), (1, .int (nI m)), (2, .int (nI h))] [] _ _ _ _ _
  refine V_aload_n 1 0 rfl _ rfl rfl dX3_wear_0 rfl ?_
  refine V_iload_n 2 1 rfl rfl dX3_wear_1 rfl ?_
  refine V_callV (K' := 0) (S' := 0) 5 26 3 1 [.int (nI m)] mkX3_lives lkX3_72 (by decide) rfl rfl (by decide) rfl (Nat.le_of_ble_eq_true rfl) (Nat.le_of_ble_eq_true rfl) (Nat.le_of_ble_eq_true rfl) (Nat.le_of_ble_eq_true rfl) rfl rfl dX3_wear_2 rfl (c_X3_lives_26 hRK hD hF hm (fun e1 => ?_) (fun e1 => ?_))
  · refine Kq_i (k' := 0) (sl' := 0) rfl rfl ?_
    refine V_if_eq 17 8 rfl dX3_wear_5 rfl (fun c5 => absurd c5 (by decide)) (fun c5 => ?_)
    refine V_aload_n 9 0 rfl _ rfl rfl dX3_wear_8 rfl ?_
    refine V_iload_n 10 2 rfl rfl dX3_wear_9 rfl ?_
    refine V_callV (K' := 0) (S' := 0) 13 26 3 1 [.int (nI h)] mkX3_wearerOf lkX3_76 (by decide) rfl rfl (by decide) rfl (Nat.le_of_ble_eq_true rfl) (Nat.le_of_ble_eq_true rfl) (Nat.le_of_ble_eq_true rfl) (Nat.le_of_ble_eq_true rfl) rfl rfl dX3_wear_10 rfl (c_X3_wearerOf_26 hRK hD ?_)
    refine Kq_i (k' := 0) (sl' := 0) rfl rfl ?_
    refine V_iconst 14 (-1) rfl dX3_wear_13 rfl ?_
    refine V_icmp_eq 19 17 rfl dX3_wear_14 rfl (fun c14 => ?_) (fun c14 => ?_)
    · refine V_aload_n 20 0 rfl _ rfl rfl dX3_wear_19 rfl ?_
      refine V_getR 23 26 3 1 28 (hRK 26 1 (by decide) (by decide) (by decide)) flX3_15 rfl rfl rfl (by decide) dX3_wear_20 rfl ?_
      refine V_iload_n 24 1 rfl rfl dX3_wear_23 rfl ?_
      refine V_iload_n 25 2 rfl rfl dX3_wear_24 rfl ?_
      refine V_iastN 26 28 6 m (by omega) (by decide) rfl (by decide) dX3_wear_25 rfl ?_
      refine V_iconst 27 (1) rfl dX3_wear_26 rfl ?_
      refine V_ret_i rfl (by first | rfl | decide) (Nat.le_refl _) (fun h => absurd h (by decide)) (Nat.le_refl _) (h1 e1 c14 _ (DayC_u2 hD hm) (FrC.rf.up (by decide) (by decide))) dX3_wear_27
    · refine V_iconst 18 (0) rfl dX3_wear_17 rfl ?_
      refine V_ret_i rfl (by first | rfl | decide) (Nat.le_refl _) (fun h => absurd h (by decide)) (Nat.le_refl _) (h0 (fun q => by first | exact c14 q.2 | (rw [e1] at q; exact absurd q.1 (by decide)))) dX3_wear_18
  · refine Kq_i (k' := 0) (sl' := 0) rfl rfl ?_
    refine V_if_eq 17 8 rfl dX3_wear_5 rfl (fun c5 => ?_) (fun c5 => absurd c5 (by decide))
    refine V_iconst 18 (0) rfl dX3_wear_17 rfl ?_
    refine V_ret_i rfl (by first | rfl | decide) (Nat.le_refl _) (fun h => absurd h (by decide)) (Nat.le_refl _) (h0 (fun q => by first | exact c14 q.2 | (rw [e1] at q; exact absurd q.1 (by decide)))) dX3_wear_18
set_option maxHeartbeats 4000000 in
theorem c_X3_sail_26 {G : Gx} {d : Nat} {I : FI} {R : FR} {J : FJ} {Q : Po} (hRK : RK R) {D : DV} {m g : Nat} (hD : DayC I 26 D) (hF : Flg D) (hm : m < 6) (h0 : ¬ (D (30 + m) = 1 ∧ ¬ D (6 + m) = nI g ∧ ¬ D m = -1) → Q (.inl (some (.int 0))) 103 I R J) (h1 : D (30 + m) = 1 → ¬ D (6 + m) = nI g → ¬ D m = -1 → ∀ I', DayC I' 26 (upd (upd D (6 + m) (nI g)) (12 + m) 0) → FrC I I' 26 → Q (.inl (some (.int 1))) 103 I' R J) : Cc G mX3_sail (d + 1) 0 0 [rf G 26, .int (nI m), .int (nI g)] 103 I R J Q := by
  show V _ _ _ _ _ _ _ _ [(0, rf G 26), (1, .int (nI m)), (2, .int (nI g))] [] _ _ _ _ _
  refine V_aload_n 1 0 rfl _ rfl rfl dX3_sail_0 rfl ?_
  refine V_iload_n 2 1 rfl rfl dX3_sail_1 rfl ?_
  refine V_callV (K' := 0) (S' := 0) 5 26 3 1 [.int (nI m)] mkX3_lives lkX3_72 (by decide) rfl rfl (by decide) rfl (Nat.le_of_ble_eq_true rfl) (Nat.le_of_ble_eq_true rfl) (Nat.le_of_ble_eq_true rfl) (Nat.le_of_ble_eq_true rfl) rfl rfl dX3_sail_2 rfl (c_X3_lives_26 hRK hD hF hm (fun e1 => ?_) (fun e1 => ?_))
  · refine Kq_i (k' := 0) (sl' := 0) rfl rfl ?_
    refine V_if_eq 28 8 rfl dX3_sail_5 rfl (fun c5 => absurd c5 (by decide)) (fun c5 => ?_)
    refine V_aload_n 9 0 rfl _ rfl rfl dX3_sail_8 rfl ?_
    refine V_getR 12 26 3 2 29 (hRK 26 2 (by decide) (by decide) (by decide)) flX3_18 rfl rfl rfl (by decide) dX3_sail_9 rfl ?_
    refine V_iload_n 13 1 rfl rfl dX3_sail_12 rfl ?_
    refine V_ialdN 14 29 6 m (D (6 + m)) (hD.2.2.1 m hm) (by omega) (by decide) rfl (by decide) dX3_sail_13 rfl ?_
    refine V_iload_n 15 2 rfl rfl dX3_sail_14 rfl ?_
    refine V_icmp_eq 28 18 rfl dX3_sail_15 rfl (fun c15 => ?_) (fun c15 => ?_)
    · refine V_iconst 29 (0) rfl dX3_sail_28 rfl ?_
      refine V_ret_i rfl (by first | rfl | decide) (Nat.le_refl _) (fun h => absurd h (by decide)) (Nat.le_refl _) (h0 (fun q => by first | exact q.2.2 c25 | exact q.2.1 c15 | (rw [e1] at q; exact absurd q.1 (by decide)))) dX3_sail_29
    · refine V_aload_n 19 0 rfl _ rfl rfl dX3_sail_18 rfl ?_
      refine V_getR 22 26 3 1 28 (hRK 26 1 (by decide) (by decide) (by decide)) flX3_15 rfl rfl rfl (by decide) dX3_sail_19 rfl ?_
      refine V_iload_n 23 1 rfl rfl dX3_sail_22 rfl ?_
      refine V_ialdN 24 28 6 m (D m) (hD.2.1 m hm) (by omega) (by decide) rfl (by decide) dX3_sail_23 rfl ?_
      refine V_iconst 25 (-1) rfl dX3_sail_24 rfl ?_
      refine V_icmp_ne 30 28 rfl dX3_sail_25 rfl (fun c25 => ?_) (fun c25 => ?_)
      · refine V_aload_n 31 0 rfl _ rfl rfl dX3_sail_30 rfl ?_
        refine V_getR 34 26 3 2 29 (hRK 26 2 (by decide) (by decide) (by decide)) flX3_18 rfl rfl rfl (by decide) dX3_sail_31 rfl ?_
        refine V_iload_n 35 1 rfl rfl dX3_sail_34 rfl ?_
        refine V_iload_n 36 2 rfl rfl dX3_sail_35 rfl ?_
        refine V_iastN 37 29 6 m (by omega) (by decide) rfl (by decide) dX3_sail_36 rfl ?_
        refine V_aload_n 38 0 rfl _ rfl rfl dX3_sail_37 rfl ?_
        refine V_getR 41 26 3 3 30 (hRK 26 3 (by decide) (by decide) (by decide)) flX3_21 rfl rfl rfl (by decide) dX3_sail_38 rfl ?_
        refine V_iload_n 42 1 rfl rfl dX3_sail_41 rfl ?_
        refine V_iconst 43 (0) rfl dX3_sail_42 rfl ?_
        refine V_iastN 44 30 6 m (by omega) (by decide) rfl (by decide) dX3_sail_43 rfl ?_
        refine V_iconst 45 (1) rfl dX3_sail_44 rfl ?_
        refine V_ret_i rfl (by first | rfl | decide) (Nat.le_refl _) (fun h => absurd h (by decide)) (Nat.le_refl _) (h1 e1 c15 c25 _ (DayC_u4 (DayC_u3 hD hm) hm) ((FrC.rf.up (by decide) (by decide)).up (by decide) (by decide))) dX3_sail_45
      · refine V_iconst 29 (0) rfl dX3_sail_28 rfl ?_
        refine V_ret_i rfl (by first | rfl | decide) (Nat.le_refl _) (fun h => absurd h (by decide)) (Nat.le_refl _) (h0 (fun q => by first | exact q.2.2 c25 | exact q.2.1 c15 | (rw [e1] at q; exact absurd q.1 (by decide)))) dX3_sail_29
  · refine Kq_i (k' := 0) (sl' := 0) rfl rfl ?_
    refine V_if_eq 28 8 rfl dX3_sail_5 rfl (fun c5 => ?_) (fun c5 => absurd c5 (by decide))
    refine V_iconst 29 (0) rfl dX3_sail_28 rfl ?_
    refine V_ret_i rfl (by first | rfl | decide) (Nat.le_refl _) (fun h => absurd h (by decide)) (Nat.le_refl _) (h0 (fun q => by first | exact q.2.2 c25 | exact q.2.1 c15 | (rw [e1] at q; exact absurd q.1 (by decide)))) dX3_sail_29
