/-! ===== what holds of every day ===== -/
theorem nI_sub {a b : Nat} (h : b ≤ a) : nI a - nI b = nI (a - b) := by
  have e : nI a = nI (a - b) + nI b := by rw [nI_add]; congr 1; omega
  rw [e, Int32.add_sub_cancel]
theorem fb9 : ∀ q, q < 100 → (9 : Int32) - nI q / 10 = nI (9 - q / 10) := by decide +kernel
/-- a LAW answers 0 to 99 -/
def fR (f : DV → Int32) : Prop := ∀ F, ∃ q, q ≤ 99 ∧ f F = nI q
theorem clF_R (v : Int32) : ∃ q, q ≤ 99 ∧ clF v = nI q := by
  by_cases h : v < 0
  · exact ⟨0, by omega, clF_lo h⟩
  · by_cases h2 : 99 < v
    · exact ⟨99, by omega, clF_hi h2⟩
    · obtain ⟨j, hj, rfl⟩ := nI_of h
      rw [clF_in (Int32.not_lt.mp h) (Int32.not_lt.mp h2)]
      refine ⟨j, ?_, rfl⟩
      have h3 := Int32.le_iff_toInt_le.mp (Int32.not_lt.mp h2)
      rw [nI_toInt hj] at h3
      have h4 : (99 : Int32).toInt = 99 := by decide
      omega
theorem LawC.R {I : FI} {l : Nat} {f : DV → Int32} (h : LawC I l f) : fR f := by
  obtain ⟨s, -, -, -, -, hf⟩ := h
  intro F
  rw [hf F]
  exact clF_R _
theorem seaD_R {K : CO} {f : DV → Int32} (h : fR f) (D : DV) (m : Nat) : ∃ q, q ≤ 99 ∧ seaD K f D m = nI q := by
  unfold seaD
  split
  · exact h _
  · exact ⟨0, by omega, rfl⟩
def Fsh (D : DV) : Prop := ∃ a l : Nat → Nat, (∀ m, m < 6 → D (24 + m) = nI (a m)) ∧ (∀ g, g < 6 → D (44 + g) = nI (l g)) ∧ a 0 + a 1 + a 2 + a 3 + a 4 + a 5 + (l 0 + l 1 + l 2 + l 3 + l 4 + l 5) ≤ 5994
def Emp (K : CO) (D : DV) : Prop := ∀ g, cG K ≤ g → g < 6 → D (44 + g) = 0
theorem Fsh.eq {D E : DV} (h : Fsh D) (h1 : ∀ m, m < 6 → E (24 + m) = D (24 + m)) (h2 : ∀ g, g < 6 → E (44 + g) = D (44 + g)) : Fsh E := by
  obtain ⟨a, l, e1, e2, e3⟩ := h
  exact ⟨a, l, fun m hm => (h1 m hm).trans (e1 m hm), fun g hg => (h2 g hg).trans (e2 g hg), e3⟩
def un (a : Nat → Nat) (k v : Nat) : Nat → Nat := fun j => if j = k then v else a j
theorem un_le {a : Nat → Nat} {k v w : Nat} (hk : k < 6) (h : v = a k + w) : un a k v 0 + un a k v 1 + un a k v 2 + un a k v 3 + un a k v 4 + un a k v 5 = a 0 + a 1 + a 2 + a 3 + a 4 + a 5 + w := by
  rcases (show k = 0 ∨ k = 1 ∨ k = 2 ∨ k = 3 ∨ k = 4 ∨ k = 5 by omega) with rfl | rfl | rfl | rfl | rfl | rfl <;> simp [un] <;> omega
theorem un_ge {a : Nat → Nat} {k v w : Nat} (hk : k < 6) (h : v + w = a k) : un a k v 0 + un a k v 1 + un a k v 2 + un a k v 3 + un a k v 4 + un a k v 5 + w = a 0 + a 1 + a 2 + a 3 + a 4 + a 5 := by
  rcases (show k = 0 ∨ k = 1 ∨ k = 2 ∨ k = 3 ∨ k = 4 ∨ k = 5 by omega) with rfl | rfl | rfl | rfl | rfl | rfl <;> simp [un] <;> omega
theorem Fsh.take {D : DV} (h : Fsh D) {m q : Nat} (hm : m < 6) (hq : q ≤ 99) (hat : D (6 + m) = -1 ∨ ∃ g, g < 6 ∧ D (6 + m) = nI g) : Fsh (dTake D m (nI q)) := by
  rcases hat with e | ⟨g, hg, e⟩
  · unfold dTake; rw [e]; exact h
  · obtain ⟨a, l, e1, e2, e3⟩ := h
    unfold dTake
    rw [e, nOf_n (by omega), fb9 q (by omega)]
    obtain ⟨w, hw1, hw2⟩ : ∃ w, w ≤ l g ∧ (if nI (9 - q / 10) < nI (l g) then nI (9 - q / 10) else nI (l g)) = nI w := by
      by_cases c : nI (9 - q / 10) < nI (l g)
      · have hb : l g < 2 ^ 31 := by
          have : l g ≤ 5994 := by rcases (show g = 0 ∨ g = 1 ∨ g = 2 ∨ g = 3 ∨ g = 4 ∨ g = 5 by omega) with rfl | rfl | rfl | rfl | rfl | rfl <;> omega
          omega
        exact ⟨9 - q / 10, Nat.le_of_lt ((nI_ltI (by omega) hb).mp c), if_pos c⟩
      · exact ⟨l g, Nat.le_refl _, if_neg c⟩
    show Fsh (upd (upd (upd D (44 + g) (D (44 + g) - (if nI (9 - q / 10) < D (44 + g) then nI (9 - q / 10) else D (44 + g)))) (24 + m) (D (24 + m) + (if nI (9 - q / 10) < D (44 + g) then nI (9 - q / 10) else D (44 + g)))) (12 + m) (D (12 + m) + 1))
    rw [e2 g hg, hw2, nI_sub hw1, e1 m hm, nI_add]
    refine ⟨un a m (a m + w), un l g (l g - w), fun j hj => ?_, fun j hj => ?_, ?_⟩
    · rw [upd_n (by omega)]
      by_cases c : j = m
      · subst c; rw [upd_s]; simp [un]
      · rw [upd_n (by omega), upd_n (by omega), e1 j hj]; simp [un, c]
    · rw [upd_n (by omega), upd_n (by omega)]
      by_cases c : j = g
      · subst c; rw [upd_s]; simp [un]
      · rw [upd_n (by omega), e2 j hj]; simp [un, c]
    · have h1 := un_le (a := a) (v := a m + w) hm rfl
      have h2 := un_ge (a := l) (v := l g - w) (w := w) hg (by omega)
      omega
/-- all of it -/
def DI (K : CO) (D : DV) : Prop := WD K D ∧ StO D ∧ Bey K D ∧ HbO K D ∧ Fsh D ∧ Emp K D
theorem Bey.eq {K : CO} {D E : DV} (h : Bey K D) (he : ∀ m, cM K ≤ m → m < 6 → E m = D m ∧ E (6 + m) = D (6 + m) ∧ E (30 + m) = D (30 + m) ∧ E (24 + m) = D (24 + m)) : Bey K E := fun m h1 h2 => by
  obtain ⟨a, b, c, d⟩ := he m h1 h2
  rw [a, b, c, d]; exact h m h1 h2
theorem dDie0_on {D : DV} {m j : Nat} (hj : j < 6) (h : j ≠ m) : dDie0 D m j = D j := by
  unfold dDie0
  rw [dHome_keep (by omega) (by omega), upd_n h, upd_n (by omega)]
theorem dDie_on {D : DV} {m j : Nat} {k : Option Nat} (hj : j < 6) (h : j ≠ m) (hk : k ≠ some j) : dDie D m k j = D j := by
  unfold dDie
  split
  · exact dDie0_on hj h
  · rename_i q
    split
    · rw [upd_n (fun e => hk (by rw [e])), dDie0_on hj h]
    · exact dDie0_on hj h
theorem Bey.die {K : CO} {D : DV} {m : Nat} {k : Option Nat} (h : Bey K D) (hm : m < cM K) (h6 : cM K ≤ 6) (hk : ∀ j, k = some j → j < cM K) : Bey K (dDie D m k) := h.eq fun j h1 h2 =>
  have hk6 : ∀ j, k = some j → j < 6 := fun j e => by have := hk j e; omega
  ⟨dDie_on h2 (by omega) (fun e => by have := hk j e; omega), dDie_keep (by omega) hk6 (by omega) (by omega) (by omega) (by omega), dDie_keep (by omega) hk6 (by omega) (by omega) (by omega) (by omega), dDie_keep (by omega) hk6 (by omega) (by omega) (by omega) (by omega)⟩
theorem Bey.u {K : CO} {D : DV} {k : Nat} {v : Int32} (h : Bey K D) (hk : (12 ≤ k ∧ k < 24) ∨ 36 ≤ k) : Bey K (upd D k v) := h.eq fun j h1 h2 => ⟨upd_n (by omega), upd_n (by omega), upd_n (by omega), upd_n (by omega)⟩
theorem Fsh.u {D : DV} {k : Nat} {v : Int32} (h : Fsh D) (hk : k < 24 ∨ (30 ≤ k ∧ k < 44) ∨ 50 ≤ k) : Fsh (upd D k v) := h.eq (fun j hj => upd_n (by omega)) (fun j hj => upd_n (by omega))
theorem Emp.eq {K : CO} {D E : DV} (h : Emp K D) (he : ∀ g, cG K ≤ g → g < 6 → E (44 + g) = D (44 + g)) : Emp K E := fun g h1 h2 => (he g h1 h2).trans (h g h1 h2)
theorem Emp.u {K : CO} {D : DV} {k : Nat} {v : Int32} (h : Emp K D) (hk : k < 44 ∨ 50 ≤ k) : Emp K (upd D k v) := h.eq fun j h1 h2 => upd_n (by omega)
theorem Fsh.die {D : DV} {m : Nat} {k : Option Nat} (h : Fsh D) (hm : m < 6) (hk : ∀ j, k = some j → j < 6) : Fsh (dDie D m k) := h.eq (fun j hj => dDie_keep hm hk (by omega) (by omega) (by omega) (by omega)) (fun j hj => dDie_keep hm hk (by omega) (by omega) (by omega) (by omega))
theorem Emp.die {K : CO} {D : DV} {m : Nat} {k : Option Nat} (h : Emp K D) (hm : m < 6) (hk : ∀ j, k = some j → j < 6) : Emp K (dDie D m k) := h.eq fun j h1 h2 => dDie_keep hm hk (by omega) (by omega) (by omega) (by omega)
theorem dTake_keep {D : DV} {m i : Nat} {r : Int32} (hat : D (6 + m) = -1 ∨ ∃ g, g < 6 ∧ D (6 + m) = nI g) (h1 : i ≠ 12 + m) (h2 : i ≠ 24 + m) (h3 : i < 44 ∨ 50 ≤ i) : dTake D m r i = D i := by
  rcases hat with e | ⟨g, hg, e⟩
  · unfold dTake; rw [e]; rfl
  · unfold dTake; rw [e, nOf_n (by omega)]
    show upd (upd (upd D _ _) _ _) _ _ i = D i
    rw [upd_n h1, upd_n h2, upd_n (by omega)]
theorem StO.take {D : DV} {m : Nat} {r : Int32} (h : StO D) (hm : m < 6) (hat : D (6 + m) = -1 ∨ ∃ g, g < 6 ∧ D (6 + m) = nI g) : StO (dTake D m r) := by
  intro j hj e
  rw [dTake_keep hat (by omega) (by omega) (by omega)] at e
  by_cases c : j = m
  · subst c
    have e2 : dTake D j r = D := by unfold dTake; rw [e]; rfl
    rw [e2]; exact h j hj e
  · rw [dTake_keep hat (by omega) (by omega) (by omega)]; exact h j hj e
theorem Emp.take {K : CO} {D : DV} {m : Nat} {r : Int32} (h : Emp K D) (hm : m < 6) (hat : D (6 + m) = -1 ∨ ∃ g, g < cG K ∧ D (6 + m) = nI g) (h6 : cG K ≤ 6) : Emp K (dTake D m r) := h.eq fun j h1 h2 => by
  rcases hat with e | ⟨g, hg, e⟩
  · unfold dTake; rw [e]; rfl
  · unfold dTake; rw [e, nOf_n (by omega)]
    show upd (upd (upd D _ _) _ _) _ _ _ = D _
    rw [upd_n (by omega), upd_n (by omega), upd_n (by omega)]
theorem HbO.eq {K : CO} {D E : DV} (h : HbO K D) (he : ∀ m, m < cM K → E (30 + m) = 1 → D (30 + m) = 1 ∧ E (18 + m) = D (18 + m)) : HbO K E := fun m hm e => by
  obtain ⟨a, b⟩ := he m hm e
  rw [b]; exact h m hm a
theorem dDie_liv {D : DV} {m : Nat} {k : Option Nat} (hm : m < 6) (hk : ∀ j, k = some j → j < 6) : dDie D m k (30 + m) = 0 := by
  have e0 : dDie0 D m (30 + m) = 0 := by
    unfold dDie0
    rw [dHome_keep (by omega) (by omega), upd_n (by omega), upd_s]
  unfold dDie
  split
  · exact e0
  · rename_i q
    have := hk q rfl
    split
    · rw [upd_n (by omega)]; exact e0
    · exact e0
/-- behind an hour's deaths no living one is hurt beyond his boat -/
theorem hs2_Hb {K : CO} {S D : DV} (hW : WK K) : ∀ n, n ≤ cM K → ∀ m, m < n → hs2 K S D n (30 + m) = 1 → hs2 K S D n (18 + m) ≤ cBt K m := by
  have h6 := hW.2.2.1
  have hk6 : ∀ m j, cHr K m = some j → j < 6 := fun m j e => by have := hW.2.2.2.1 m j e; omega
  intro n
  induction n with
  | zero => intro _ m hm; exact absurd hm (by omega)
  | succ n ih =>
    intro hn m hm
    have hI := ih (by omega)
    show hs1 K S (hs2 K S D n) n (30 + m) = 1 → hs1 K S (hs2 K S D n) n (18 + m) ≤ cBt K m
    generalize hs2 K S D n = E at hI
    unfold hs1
    intro e
    by_cases c : m = n
    · subst c
      rw [upd_s] at e ⊢
      by_cases c1 : cBt K m < E (18 + m) + S m
      · rw [if_pos c1] at e ⊢
        by_cases c2 : upd E (18 + m) (E (18 + m) + S m) (30 + m) = 1
        · rw [if_pos c2, dDie_liv (by omega) (hk6 m)] at e
          exact absurd e (by decide)
        · rw [if_neg c2] at e
          exact absurd e c2
      · rw [if_neg c1, upd_s]
        exact Int32.not_lt.mp c1
    · have k1 : ∀ X : DV, dDie X n (cHr K n) (30 + m) = X (30 + m) := fun X => dDie_keep (by omega) (hk6 n) (by omega) (by omega) (by omega) (by omega)
      have k2 : ∀ X : DV, dDie X n (cHr K n) (18 + m) = X (18 + m) := fun X => dDie_keep (by omega) (hk6 n) (by omega) (by omega) (by omega) (by omega)
      have e1 : E (30 + m) = 1 := by
        split at e
        · split at e
          · rw [k1, upd_n (by omega)] at e; exact e
          · rw [upd_n (by omega)] at e; exact e
        · rw [upd_n (by omega)] at e; exact e
      have e2 := hI m (by omega) e1
      split
      · split
        · rw [k2, upd_n (by omega)]; exact e2
        · rw [upd_n (by omega)]; exact e2
      · rw [upd_n (by omega)]; exact e2
theorem DI_hs2 {K : CO} {S D : DV} (hW : WK K) (h : DI K D) : ∀ n, n ≤ cM K → StO (hs2 K S D n) ∧ Bey K (hs2 K S D n) ∧ Fsh (hs2 K S D n) ∧ Emp K (hs2 K S D n) := by
  have h6 := hW.2.2.1
  have hk6 : ∀ m j, cHr K m = some j → j < 6 := fun m j e => by have := hW.2.2.2.1 m j e; omega
  intro n
  induction n with
  | zero => intro _; exact ⟨h.2.1, h.2.2.1, h.2.2.2.2.1, h.2.2.2.2.2⟩
  | succ n ih =>
    intro hn
    obtain ⟨i1, i2, i3, i4⟩ := ih (by omega)
    have a1 : StO (upd (hs2 K S D n) (18 + n) (hs2 K S D n (18 + n) + S n)) := i1.u (by omega)
    have a2 : Bey K (upd (hs2 K S D n) (18 + n) (hs2 K S D n (18 + n) + S n)) := i2.u (by omega)
    have a3 : Fsh (upd (hs2 K S D n) (18 + n) (hs2 K S D n (18 + n) + S n)) := i3.u (by omega)
    have a4 : Emp K (upd (hs2 K S D n) (18 + n) (hs2 K S D n (18 + n) + S n)) := i4.u (by omega)
    show StO (if _ then (if _ then _ else _) else _) ∧ Bey K (if _ then (if _ then _ else _) else _) ∧ Fsh (if _ then (if _ then _ else _) else _) ∧ Emp K (if _ then (if _ then _ else _) else _)
    split
    · split
      · exact ⟨a1.die (by omega) (hk6 n), a2.die (by omega) h6 (hW.2.2.2.1 n), a3.die (by omega) (hk6 n), a4.die (by omega) (hk6 n)⟩
      · exact ⟨a1, a2, a3, a4⟩
    · exact ⟨a1, a2, a3, a4⟩
theorem DI_tk3 {K : CO} {S E : DV} (hW : WK K) (hS : ∀ m, m < cM K → ∃ q, q ≤ 99 ∧ S m = nI q) (hw : WD K E) (h1 : StO E) (h2 : Bey K E) (h3 : Fsh E) (h4 : Emp K E) (h5 : HbO K E) : ∀ n, n ≤ cM K → StO (tk3 S E n) ∧ Bey K (tk3 S E n) ∧ Fsh (tk3 S E n) ∧ Emp K (tk3 S E n) ∧ HbO K (tk3 S E n) := by
  have h6 := hW.2.2.1
  intro n
  induction n with
  | zero => intro _; exact ⟨h1, h2, h3, h4, h5⟩
  | succ n ih =>
    intro hn
    obtain ⟨i1, i2, i3, i4, i5⟩ := ih (by omega)
    have hwn := hw.tk3 (S := S) hW n (by omega)
    have hat := hwn.at6 hW (m := n) (by omega)
    obtain ⟨q, hq, e⟩ := hS n (by omega)
    show StO (dTake _ n (S n)) ∧ Bey K (dTake _ n (S n)) ∧ Fsh (dTake _ n (S n)) ∧ Emp K (dTake _ n (S n)) ∧ HbO K (dTake _ n (S n))
    refine ⟨i1.take (by omega) hat, i2.eq fun j g1 g2 => ⟨dTake_keep hat (by omega) (by omega) (by omega), dTake_keep hat (by omega) (by omega) (by omega), dTake_keep hat (by omega) (by omega) (by omega), dTake_keep hat (by omega) (by omega) (by omega)⟩, by rw [e]; exact i3.take (by omega) hq hat, i4.take (by omega) (hwn.2.2 n (by omega)) hW.2.1, i5.eq fun m hm e2 => ?_⟩
    rw [dTake_keep hat (by omega) (by omega) (by omega)] at e2
    exact ⟨e2, dTake_keep hat (by omega) (by omega) (by omega)⟩
theorem DI_pass {K : CO} {f : DV → Int32} {D : DV} (hW : WK K) (hf : fR f) (h : DI K D) : DI K (passD K f D) := by
  have h6 := hW.2.2.1
  obtain ⟨i1, i2, i3, i4⟩ := DI_hs2 (S := seaD K f D) hW h (cM K) (Nat.le_refl _)
  obtain ⟨j1, j2, j3, j4, j5⟩ := DI_tk3 (S := seaD K f D) hW (fun m _ => seaD_R hf D m) (h.1.hs2 (S := seaD K f D) hW (cM K) (Nat.le_refl _)) i1 i2 i3 i4 (fun m hm e => hs2_Hb hW (cM K) (Nat.le_refl _) m hm e) (cM K) (Nat.le_refl _)
  exact ⟨h.1.pass hW, j1.u (by omega), j2.u (by omega), j5.eq fun m hm e => ⟨by rw [passD, upd_n (by omega)] at e; exact e, upd_n (by omega)⟩, j3.u (by omega), j4.u (by omega)⟩
/-- hour after hour -/
def hrsD (K : CO) (f : DV → Int32) (D : DV) : Nat → DV
  | 0 => D
  | n + 1 => passD K f (hrsD K f D n)
theorem DI_hrs {K : CO} {f : DV → Int32} {D : DV} (hW : WK K) (hf : fR f) (h : DI K D) : ∀ n, DI K (hrsD K f D n) := by
  intro n
  induction n with
  | zero => exact h
  | succ n ih => exact DI_pass hW hf ih
/-- .. and behind every STEP -/
theorem DI_lt {K : CO} {D : DV} {m : Nat} (h : DI K D) (hm : m < 6) (h1 : D (30 + m) = 1) : m < cM K := by
  by_cases c : m < cM K
  · exact c
  · have := (h.2.2.1 m (by omega) hm).2.2.1
    rw [h1] at this
    exact absurd this (by decide)
theorem DI_wear {K : CO} {D : DV} {m h : Nat} (h6 : cM K ≤ 6) (hD : DI K D) (hm : m < 6) (h1 : D (30 + m) = 1) (hh : h < cH K) : DI K (upd D m (nI h)) := by
  have hl := DI_lt hD hm h1
  refine ⟨hD.1.on hm (Or.inr ⟨h, hh, rfl⟩), hD.2.1.u (by omega), hD.2.2.1.eq fun j a b => ⟨upd_n (by omega), upd_n (by omega), upd_n (by omega), upd_n (by omega)⟩, hD.2.2.2.1.eq fun j a e => ?_, hD.2.2.2.2.1.u (by omega), hD.2.2.2.2.2.u (by omega)⟩
  rw [upd_n (by omega)] at e
  exact ⟨e, upd_n (by omega)⟩
theorem DI_doff {K : CO} {D : DV} {m : Nat} (h6 : cM K ≤ 6) (hD : DI K D) (hm : m < 6) : DI K (upd D m (-1)) := by
  refine ⟨hD.1.on hm (Or.inl rfl), hD.2.1.u (by omega), fun j a b => ?_, hD.2.2.2.1.eq fun j a e => ?_, hD.2.2.2.2.1.u (by omega), hD.2.2.2.2.2.u (by omega)⟩
  · obtain ⟨b1, b2, b3, b4⟩ := hD.2.2.1 j a b
    refine ⟨?_, by rw [upd_n (by omega)]; exact b2, by rw [upd_n (by omega)]; exact b3, by rw [upd_n (by omega)]; exact b4⟩
    by_cases c : j = m
    · subst c; exact upd_s
    · rw [upd_n c]; exact b1
  · rw [upd_n (by omega)] at e
    exact ⟨e, upd_n (by omega)⟩
theorem DI_oil {K : CO} {D : DV} {h : Nat} {v : Int32} (h6 : cM K ≤ 6) (hD : DI K D) (hh : h < 8) : DI K (upd D (36 + h) v) := by
  refine ⟨hD.1.u (by omega) (by omega), hD.2.1.u (by omega), hD.2.2.1.u (by omega), hD.2.2.2.1.eq fun j a e => ?_, hD.2.2.2.2.1.u (by omega), hD.2.2.2.2.2.u (by omega)⟩
  rw [upd_n (by omega)] at e
  exact ⟨e, upd_n (by omega)⟩
theorem DI_sail {K : CO} {D : DV} {m g : Nat} (h6 : cM K ≤ 6) (hD : DI K D) (hm : m < 6) (h1 : D (30 + m) = 1) (hg : g < cG K) : DI K (upd (upd D (6 + m) (nI g)) (12 + m) 0) := by
  have hl := DI_lt hD hm h1
  refine ⟨(hD.1.at hm (Or.inr ⟨g, hg, rfl⟩)).u (by omega) (by omega), fun j hj e => ?_, hD.2.2.1.eq fun j a b => ⟨by rw [upd_n (by omega), upd_n (by omega)], by rw [upd_n (by omega), upd_n (by omega)], by rw [upd_n (by omega), upd_n (by omega)], by rw [upd_n (by omega), upd_n (by omega)]⟩, hD.2.2.2.1.eq fun j a e => ?_, (hD.2.2.2.2.1.u (by omega)).u (by omega), (hD.2.2.2.2.2.u (by omega)).u (by omega)⟩
  · by_cases c : j = m
    · subst c; exact upd_s
    · rw [upd_n (by omega), upd_n (by omega)] at e
      rw [upd_n (by omega), upd_n (by omega)]
      exact hD.2.1 j hj e
  · rw [upd_n (by omega), upd_n (by omega)] at e
    exact ⟨e, by rw [upd_n (by omega), upd_n (by omega)]⟩
theorem DI_home {K : CO} {D : DV} {m : Nat} (h6 : cM K ≤ 6) (hD : DI K D) (hm : m < 6) : DI K (dHome D m) := by
  refine ⟨hD.1.home hm, hD.2.1.home hm, fun j a b => ?_, hD.2.2.2.1.eq fun j a e => ?_, hD.2.2.2.2.1.eq (fun j _ => dHome_keep (by omega) (by omega)) (fun j _ => dHome_keep (by omega) (by omega)), hD.2.2.2.2.2.eq fun j _ _ => dHome_keep (by omega) (by omega)⟩
  · obtain ⟨b1, b2, b3, b4⟩ := hD.2.2.1 j a b
    refine ⟨by rw [dHome_keep (by omega) (by omega)]; exact b1, ?_, by rw [dHome_keep (by omega) (by omega)]; exact b3, by rw [dHome_keep (by omega) (by omega)]; exact b4⟩
    unfold dHome
    split
    · exact b2
    · rw [upd_n (by omega)]
      by_cases c : j = m
      · subst c; exact upd_s
      · rw [upd_n (by omega)]; exact b2
  · rw [dHome_keep (by omega) (by omega)] at e
    exact ⟨e, dHome_keep (by omega) (by omega)⟩
theorem DI_die {K : CO} {D : DV} {m : Nat} (hW : WK K) (hD : DI K D) (hm : m < cM K) : DI K (dDie D m (cHr K m)) := by
  have h6 := hW.2.2.1
  have hk6 : ∀ j, cHr K m = some j → j < 6 := fun j e => by have := hW.2.2.2.1 m j e; omega
  refine ⟨hD.1.die (by omega) hk6, hD.2.1.die (by omega) hk6, hD.2.2.1.die hm h6 (hW.2.2.2.1 m), hD.2.2.2.1.eq fun j a e => ?_, hD.2.2.2.2.1.die (by omega) hk6, hD.2.2.2.2.2.die (by omega) hk6⟩
  by_cases c : j = m
  · subst c
    rw [dDie_liv (by omega) hk6] at e
    exact absurd e (by decide)
  · rw [dDie_keep (by omega) hk6 (by omega) (by omega) (by omega) (by omega)] at e
    exact ⟨e, dDie_keep (by omega) hk6 (by omega) (by omega) (by omega) (by omega)⟩
