/-! ===== the two hours are one ===== -/
theorem dHome_upd {D : DV} {m k : Nat} {v : Int32} (h1 : k ≠ 6 + m) (h2 : k ≠ 12 + m) : dHome (upd D k v) m = upd (dHome D m) k v := by
  unfold dHome
  rw [upd_n (Ne.symm h1)]
  split
  · rfl
  · rw [upd_comm h1, upd_comm h2]
theorem dDie0_upd {D : DV} {m k : Nat} {v : Int32} (h1 : k ≠ 6 + m) (h2 : k ≠ 12 + m) (h3 : k ≠ 30 + m) (h4 : k ≠ m) : dDie0 (upd D k v) m = upd (dDie0 D m) k v := by
  unfold dDie0
  rw [upd_comm h3, upd_comm h4, dHome_upd h1 h2]
theorem dDie_upd {D : DV} {m k : Nat} {v : Int32} {x : Option Nat} (hm : m < 6) (hk : 18 ≤ k) (hk2 : k < 30) (hx : ∀ j, x = some j → j < 6) : dDie (upd D k v) m x = upd (dDie D m x) k v := by
  cases x with
  | none => exact dDie0_upd (by omega) (by omega) (by omega) (by omega)
  | some j =>
    have hj := hx j rfl
    rw [dDie, dDie, dDie0_upd (by omega) (by omega) (by omega) (by omega), upd_n (show 30 + j ≠ k by omega), upd_n (show j ≠ k by omega), upd_n (show m ≠ k by omega)]
    split
    · exact upd_comm (by omega)
    · rfl
theorem dHome_keep {D : DV} {m i : Nat} (h1 : i ≠ 6 + m) (h2 : i ≠ 12 + m) : dHome D m i = D i := by
  unfold dHome; split
  · rfl
  · rw [upd_n h2, upd_n h1]
theorem dDie_keep {D : DV} {m i : Nat} {x : Option Nat} (hm : m < 6) (hx : ∀ j, x = some j → j < 6) (h0 : 6 ≤ i) (h1 : i ≠ 6 + m) (h2 : i ≠ 12 + m) (h3 : i ≠ 30 + m) : dDie D m x i = D i := by
  have e0 : dDie0 D m i = D i := by unfold dDie0; rw [dHome_keep h1 h2, upd_n (by omega), upd_n h3]
  cases x with
  | none => exact e0
  | some j =>
    have hj := hx j rfl
    rw [dDie]; split
    · rw [upd_n (by omega)]; exact e0
    · exact e0
theorem dtF_upd {K : CO} {E : DV} {n : Nat} {v : Int32} (hW : WK K) (hn : n < 6) : ∀ m, m ≤ n → m ≤ cM K → dtF K (upd E (18 + n) v) m = upd (dtF K E m) (18 + n) v := by
  have h3 := hW.2.2.1
  intro m
  induction m with
  | zero => intro _ _; rfl
  | succ m ih =>
    intro h1 h2
    rw [dtF, dtF, ih (by omega) (by omega), upd_n (show 30 + m ≠ 18 + n by omega), upd_n (show 6 + m ≠ 18 + n by omega), upd_n (show 18 + m ≠ 18 + n by omega)]
    split
    · exact dDie_upd (by omega) (by omega) (by omega) (fun j e => by have := hW.2.2.2.1 m j e; omega)
    · rfl
theorem huF_keep {S D : DV} : ∀ n j, n ≤ j → huF S D n (18 + j) = D (18 + j) := by
  intro n
  induction n with
  | zero => intro j _; rfl
  | succ n ih => intro j hj; rw [huF, upd_n (by omega)]; exact ih j (by omega)
theorem hs2_keep {K : CO} {S D : DV} (hW : WK K) : ∀ n, n ≤ cM K → ∀ j, n ≤ j → j < 6 → hs2 K S D n (18 + j) = D (18 + j) ∧ hs2 K S D n (6 + j) = D (6 + j) ∧ hs2 K S D n (30 + j) = D (30 + j) := by
  have h3 := hW.2.2.1
  intro n
  induction n with
  | zero => intro _ j _ _; exact ⟨rfl, rfl, rfl⟩
  | succ n ih =>
    intro hn j h1 h2
    obtain ⟨a, b, c⟩ := ih (by omega) j (by omega) h2
    have hx : ∀ q, cHr K n = some q → q < 6 := fun q e => by have := hW.2.2.2.1 n q e; omega
    have key : ∀ i, 6 ≤ i → i ≠ 6 + n → i ≠ 12 + n → i ≠ 18 + n → i ≠ 30 + n → hs1 K S (hs2 K S D n) n i = hs2 K S D n i := by
      intro i i0 i1 i2 i3 i4
      show (if _ then (if _ then _ else _) else _ : DV) i = _
      split
      · split
        · rw [dDie_keep (by omega) hx i0 i1 i2 i4, upd_n i3]
        · rw [upd_n i3]
      · rw [upd_n i3]
    rw [hs2]
    exact ⟨by rw [key _ (by omega) (by omega) (by omega) (by omega) (by omega)]; exact a, by rw [key _ (by omega) (by omega) (by omega) (by omega) (by omega)]; exact b, by rw [key _ (by omega) (by omega) (by omega) (by omega) (by omega)]; exact c⟩
/-- the living are hurt no more than their boats bear -/
def HbO (K : CO) (D : DV) : Prop := ∀ m, m < cM K → D (30 + m) = 1 → D (18 + m) ≤ cBt K m
theorem dt_hu {K : CO} {S D : DV} (hW : WK K) (hS : ∀ m, m < cM K → D (6 + m) = -1 → S m = 0) (hH : HbO K D) : ∀ n, n ≤ cM K → dtF K (huF S D n) n = hs2 K S D n := by
  have h3 := hW.2.2.1
  intro n
  induction n with
  | zero => intro _; rfl
  | succ n ih =>
    intro hn
    obtain ⟨a, b, c⟩ := hs2_keep (S := S) (D := D) hW n (by omega) n (Nat.le_refl _) (by omega)
    obtain ⟨X, hX⟩ : ∃ X, X = upd (hs2 K S D n) (18 + n) (D (18 + n) + S n) := ⟨_, rfl⟩
    have e1 : dtF K (huF S D (n + 1)) n = X := by
      rw [huF, dtF_upd hW (by omega) n (Nat.le_refl _) (by omega), ih (by omega), huF_keep n n (Nat.le_refl _), hX]
    have e2 : hs2 K S D (n + 1) = (if cBt K n < X (18 + n) then (if X (30 + n) = 1 then dDie X n (cHr K n) else X) else X) := by
      rw [hX, ← a]; rfl
    have x6 : X (6 + n) = D (6 + n) := by rw [hX, upd_n (by omega)]; exact b
    have x30 : X (30 + n) = D (30 + n) := by rw [hX, upd_n (by omega)]; exact c
    have x18 : X (18 + n) = D (18 + n) + S n := by rw [hX]; exact upd_s
    rw [dtF, e1, e2]
    by_cases c1 : cBt K n < X (18 + n)
    · by_cases c2 : X (30 + n) = 1
      · have c3 : ¬ X (6 + n) = -1 := by
          intro q
          have s0 := hS n (by omega) (x6.symm.trans q)
          have := hH n (by omega) (x30.symm.trans c2)
          rw [x18, s0, Int32.add_zero] at c1
          exact absurd c1 (Int32.not_lt.mpr this)
        rw [if_pos ⟨c2, c3, c1⟩, if_pos c1, if_pos c2]
      · rw [if_neg (fun q => c2 q.1), if_pos c1, if_neg c2]
    · rw [if_neg (fun q => c1 q.2.2), if_neg c1]
theorem pass_eq {K : CO} {f : DV → Int32} {D : DV} (hW : WK K) (hH : HbO K D) : passM K f D = passD K f D := by
  unfold passM passD
  rw [dt_hu hW (fun m _ e => by unfold seaD; rw [e]; rfl) hH (cM K) (Nat.le_refl _)]
