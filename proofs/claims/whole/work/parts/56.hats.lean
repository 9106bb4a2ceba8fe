/-! ===== hatted, given: the least SEAS of the living, each in a HAT of his own ===== -/
def pc8 (s : Nat) : Nat := s % 2 + s / 2 % 2 + s / 4 % 2 + s / 8 % 2 + s / 16 % 2 + s / 32 % 2 + s / 64 % 2 + s / 128 % 2
theorem bc8 : ∀ s, s < 256 → bcI (nI s) = nI (pc8 s) := by decide +kernel
theorem or8 : ∀ s, s < 256 → ∀ h, h < 8 → (nI s >>> (nI h &&& 31)) &&& 1 = 0 → nI s ||| ((1 : Int32) <<< (nI h &&& 31)) = nI (s + 2 ^ h) ∧ s + 2 ^ h < 256 ∧ pc8 (s + 2 ^ h) = pc8 s + 1 := by decide +kernel
theorem lt8a : ∀ H, H < 9 → ∀ s, s < 256 → s < 2 ^ H → pc8 s ≤ H := by decide +kernel
theorem lt8b : ∀ H, H < 9 → ∀ s, s < 256 → s < 2 ^ H → pc8 s < H → ¬ ∀ h, h < H → ¬ (nI s >>> (nI h &&& 31)) &&& 1 = 0 := by decide +kernel
theorem lt8c : ∀ H, H < 9 → ∀ s, s < 256 → s < 2 ^ H → ∀ h, h < H → (nI s >>> (nI h &&& 31)) &&& 1 = 0 → s + 2 ^ h < 2 ^ H := by decide +kernel
theorem lt8 (H : Nat) (hH : H < 9) (s : Nat) (hs : s < 256) (h : s < 2 ^ H) : pc8 s ≤ H ∧ (pc8 s < H → ¬ ∀ h, h < H → ¬ (nI s >>> (nI h &&& 31)) &&& 1 = 0) ∧ ∀ h, h < H → (nI s >>> (nI h &&& 31)) &&& 1 = 0 → s + 2 ^ h < 2 ^ H := ⟨lt8a H hH s hs h, lt8b H hH s hs h, lt8c H hH s hs h⟩
theorem sh8 : ∀ H, H < 9 → (1 : Int32) <<< (nI H &&& 31) = nI (2 ^ H) := by decide +kernel
theorem pow8 {H : Nat} (h : H ≤ 8) : 0 < 2 ^ H ∧ 2 ^ H ≤ 256 := by
  rcases (show H = 0 ∨ H = 1 ∨ H = 2 ∨ H = 3 ∨ H = 4 ∨ H = 5 ∨ H = 6 ∨ H = 7 ∨ H = 8 by omega) with rfl | rfl | rfl | rfl | rfl | rfl | rfl | rfl | rfl <;> decide
def qF (c : Nat → Option Nat) (p : Nat → Nat) (s h : Nat) : Option Nat := if (nI s >>> (nI h &&& 31)) &&& 1 = 0 then (c (s + 2 ^ h)).map (p h + ·) else none
def fcF (q : Nat → Option Nat) : Nat → Option (Nat × Nat)
  | 0 => none
  | h + 1 => match q h with
    | none => fcF q h
    | some v => match fcF q h with
      | none => some (h, v)
      | some w => if v < w.2 then some (h, v) else some w
theorem fc_n {q : Nat → Option Nat} {h : Nat} (e : q h = none) : fcF q (h + 1) = fcF q h := by rw [fcF, e]
theorem fc_0 {q : Nat → Option Nat} {h v : Nat} (e : q h = some v) (e2 : fcF q h = none) : fcF q (h + 1) = some (h, v) := by rw [fcF, e, e2]
theorem fc_1 {q : Nat → Option Nat} {h v : Nat} {w : Nat × Nat} (e : q h = some v) (e2 : fcF q h = some w) : fcF q (h + 1) = if v < w.2 then some (h, v) else some w := by rw [fcF, e, e2]
theorem fc_none {q : Nat → Option Nat} : ∀ H, (fcF q H = none ↔ ∀ h, h < H → q h = none) := by
  intro H
  induction H with
  | zero => exact ⟨fun _ h hh => absurd hh (Nat.not_lt_zero _), fun _ => rfl⟩
  | succ H ih =>
    cases e : q H with
    | none =>
      rw [fc_n e, ih]
      exact ⟨fun a h hh => by by_cases c : h = H; rw [c]; exact e; exact a h (by omega), fun a h hh => a h (by omega)⟩
    | some v =>
      constructor
      · intro a
        cases e2 : fcF q H with
        | none => rw [fc_0 e e2] at a; cases a
        | some w =>
          rw [fc_1 e e2] at a
          split at a <;> cases a
      · intro a
        rw [a H (by omega)] at e
        cases e
theorem fc_some {q : Nat → Option Nat} : ∀ H h0 v0, fcF q H = some (h0, v0) → h0 < H ∧ q h0 = some v0 ∧ (∀ h v, h < h0 → q h = some v → v0 < v) ∧ ∀ h v, h < H → q h = some v → v0 ≤ v := by
  intro H
  induction H with
  | zero => intro h0 v0 e; cases e
  | succ H ih =>
    intro h0 v0 e
    cases e1 : q H with
    | none =>
      rw [fc_n e1] at e
      obtain ⟨a, b, c, d⟩ := ih h0 v0 e
      refine ⟨by omega, b, c, fun h v hh ev => ?_⟩
      by_cases q1 : h = H
      · rw [q1, e1] at ev; cases ev
      · exact d h v (by omega) ev
    | some v1 =>
      cases e2 : fcF q H with
      | none =>
        rw [fc_0 e1 e2] at e
        cases e
        have nn := (fc_none H).mp e2
        refine ⟨by omega, e1, fun h v hh ev => ?_, fun h v hh ev => ?_⟩
        · rw [nn h hh] at ev; cases ev
        · by_cases q1 : h = H
          · rw [q1, e1] at ev; cases ev; exact Nat.le_refl _
          · rw [nn h (by omega)] at ev; cases ev
      | some w =>
        obtain ⟨w1, w2⟩ := w
        obtain ⟨a, b, c, d⟩ := ih w1 w2 e2
        rw [fc_1 e1 e2] at e
        split at e
        · rename_i cc
          cases e
          refine ⟨by omega, e1, fun h v hh ev => ?_, fun h v hh ev => ?_⟩
          · exact Nat.lt_of_lt_of_le cc (d h v hh ev)
          · by_cases q1 : h = H
            · rw [q1, e1] at ev; cases ev; exact Nat.le_refl _
            · exact Nat.le_of_lt (Nat.lt_of_lt_of_le cc (d h v (by omega) ev))
        · rename_i cc
          cases e
          refine ⟨by omega, b, c, fun h v hh ev => ?_⟩
          by_cases q1 : h = H
          · rw [q1, e1] at ev; cases ev; dsimp only at cc; omega
          · exact d h v (by omega) ev
theorem fc_cg {q q' : Nat → Option Nat} : ∀ H, (∀ h, h < H → q h = q' h) → fcF q H = fcF q' H := by
  intro H
  induction H with
  | zero => intro _; rfl
  | succ H ih =>
    intro h
    rw [fcF, fcF, h H (by omega), ih (fun k hk => h k (by omega))]
def LO (D : DV) (p : Nat → Nat → Nat) (M H : Nat) : Nat → Nat → Option Nat
  | 0, _ => some 0
  | k + 1, s => if D (30 + (M - (k + 1))) = 1 then (fcF (qF (LO D p M H k) (p (M - (k + 1))) s) H).map (·.2) else LO D p M H k s
theorem LO_m {D : DV} {p : Nat → Nat → Nat} {M H m s : Nat} (hm : m < M) : LO D p M H (M - m) s = if D (30 + m) = 1 then (fcF (qF (LO D p M H (M - (m + 1))) (p m) s) H).map (·.2) else LO D p M H (M - (m + 1)) s := by
  obtain ⟨k, ek⟩ : ∃ k, M - m = k + 1 := ⟨M - m - 1, by omega⟩
  have e1 : M - (k + 1) = m := by omega
  have e2 : M - (m + 1) = k := by omega
  rw [ek, LO, e1, e2]
theorem LO_le {D : DV} {p : Nat → Nat → Nat} {M H : Nat} (hp : ∀ m h, p m h ≤ 99) : ∀ k s v, LO D p M H k s = some v → v ≤ 99 * k := by
  intro k
  induction k with
  | zero => intro s v e; rw [LO] at e; cases e; exact Nat.le_refl _
  | succ k ih =>
    intro s v e
    rw [LO] at e
    split at e
    · cases ef : fcF (qF (LO D p M H k) (p (M - (k + 1))) s) H with
      | none => rw [ef] at e; cases e
      | some w =>
        obtain ⟨h0, v0⟩ := w
        rw [ef] at e
        cases e
        obtain ⟨a, b, c, d⟩ := fc_some H h0 v0 ef
        unfold qF at b
        split at b
        · cases el : LO D p M H k (s + 2 ^ h0) with
          | none => rw [el] at b; cases b
          | some u =>
            rw [el] at b
            cases b
            have := ih _ _ el
            have := hp (M - (k + 1)) h0
            show p (M - (k + 1)) h0 + u ≤ _
            omega
        · cases b
    · have := ih s v e
      omega
def liv (D : DV) : Nat → Nat
  | 0 => 0
  | m + 1 => liv D m + (if D (30 + m) = 1 then 1 else 0)
theorem liv_mono {D : DV} : ∀ k m, liv D m ≤ liv D (m + k) := by
  intro k
  induction k with
  | zero => intro m; exact Nat.le_refl _
  | succ k ih =>
    intro m
    have := ih m
    show liv D m ≤ liv D (m + k) + _
    omega
theorem liv_le {D : DV} : ∀ m, liv D m ≤ m := by
  intro m
  induction m with
  | zero => exact Nat.le_refl _
  | succ m ih =>
    rw [liv]
    split <;> omega
/-- a man whose turn it is -/
theorem liv_at {D : DV} {t : Nat} : ∀ M, t < liv D M → ∃ m, m < M ∧ D (30 + m) = 1 ∧ liv D m = t := by
  intro M
  induction M with
  | zero => intro h; exact absurd h (Nat.not_lt_zero _)
  | succ M ih =>
    intro h
    rw [liv] at h
    by_cases c : t < liv D M
    · obtain ⟨m, a, b⟩ := ih c
      exact ⟨m, by omega, b⟩
    · split at h
      · rename_i c2
        exact ⟨M, by omega, c2, by omega⟩
      · omega
/-- behind the last of the living nothing is asked -/
theorem LO_skip {D : DV} {p : Nat → Nat → Nat} {M H s : Nat} : ∀ k m, m + k ≤ M → liv D m = liv D (m + k) → LO D p M H (M - m) s = LO D p M H (M - (m + k)) s := by
  intro k
  induction k with
  | zero => intro m _ _; rfl
  | succ k ih =>
    intro m hm e
    have m1 := liv_mono (D := D) k (m + 1)
    rw [show m + 1 + k = m + (k + 1) by omega] at m1
    have e1 : liv D (m + 1) = liv D m + (if D (30 + m) = 1 then 1 else 0) := rfl
    have e0 : ¬ D (30 + m) = 1 := fun c => by rw [if_pos c] at e1; omega
    rw [if_neg e0] at e1
    rw [LO_m (by omega), if_neg e0, ih (m + 1) (by omega) (by rw [show m + 1 + k = m + (k + 1) by omega]; omega), show m + 1 + k = m + (k + 1) by omega]
theorem LO_end {D : DV} {p : Nat → Nat → Nat} {M H s m : Nat} (hm : m ≤ M) (e : liv D m = liv D M) : LO D p M H (M - m) s = some 0 := by
  have := LO_skip (D := D) (p := p) (M := M) (H := H) (s := s) (M - m) m (by omega) (by rw [show m + (M - m) = M by omega]; exact e)
  rw [this, show M - (m + (M - m)) = 0 by omega]
  rfl
/-- more living than HATS: nothing is left -/
theorem LO_no {D : DV} {p : Nat → Nat → Nat} {M H : Nat} (hH : H ≤ 8) : ∀ k m s, M - m = k → m ≤ M → s < 2 ^ H → H < liv D M - liv D m + pc8 s → LO D p M H k s = none := by
  have hp := pow8 hH
  intro k
  induction k with
  | zero =>
    intro m s hk hm hs h
    have := (lt8 H (by omega) s (by omega) hs).1
    rw [show m = M by omega] at h
    omega
  | succ k ih =>
    intro m s hk hm hs h
    have e1 : liv D (m + 1) = liv D m + (if D (30 + m) = 1 then 1 else 0) := rfl
    have m1 := liv_mono (D := D) (M - (m + 1)) (m + 1)
    rw [show m + 1 + (M - (m + 1)) = M by omega] at m1
    rw [← hk, LO_m (by omega)]
    have ek : M - (m + 1) = k := by omega
    split
    · rename_i c
      rw [if_pos c] at e1
      rw [(fc_none H).mpr, Option.map_none]
      intro h hh
      unfold qF
      split
      · rename_i cb
        have l := (lt8 H (by omega) s (by omega) hs).2.2 h hh cb
        have o := or8 s (by omega) h (by omega) cb
        rw [ek, ih (m + 1) (s + 2 ^ h) ek (by omega) l (by omega), Option.map_none]
      · rfl
    · rename_i c
      rw [if_neg c] at e1
      rw [ek]
      exact ih (m + 1) s ek (by omega) hs (by omega)
def gfO (D : DV) (p : Nat → Nat → Nat) (M H s m : Nat) : Option Nat := if D (30 + m) = 1 then (fcF (qF (LO D p M H (M - (m + 1))) (p m) s) H).map (·.1) else none
def setF (D : DV) (p : Nat → Nat → Nat) (M H : Nat) : Nat → Nat
  | 0 => 0
  | m + 1 => match gfO D p M H (setF D p M H m) m with
    | some h => setF D p M H m + 2 ^ h
    | none => setF D p M H m
def givO (D : DV) (p : Nat → Nat → Nat) (M H m : Nat) : Option Nat := if LO D p M H M 0 = none then none else gfO D p M H (setF D p M H m) m
/-- along the gifts something is always left, and the used HATS are as many as the living before -/
theorem set_ok {D : DV} {p : Nat → Nat → Nat} {M H : Nat} (hH : H ≤ 8) (h0 : LO D p M H M 0 ≠ none) : ∀ m, m ≤ M → LO D p M H (M - m) (setF D p M H m) ≠ none ∧ setF D p M H m < 2 ^ H ∧ pc8 (setF D p M H m) = liv D m := by
  have hp := pow8 hH
  intro m
  induction m with
  | zero => intro _; exact ⟨h0, hp.1, show pc8 0 = 0 from by decide⟩
  | succ m ih =>
    intro hm
    obtain ⟨a, b, c⟩ := ih (by omega)
    rw [LO_m (by omega)] at a
    rw [setF, gfO, liv]
    split at a
    · rename_i cl
      rw [if_pos cl, if_pos cl]
      cases ef : fcF (qF (LO D p M H (M - (m + 1))) (p m) (setF D p M H m)) H with
      | none => rw [ef] at a; exact absurd rfl a
      | some w =>
        obtain ⟨w1, w2⟩ := w
        obtain ⟨x1, x2, -, -⟩ := fc_some H w1 w2 ef
        show LO D p M H (M - (m + 1)) (setF D p M H m + 2 ^ w1) ≠ none ∧ setF D p M H m + 2 ^ w1 < 2 ^ H ∧ pc8 (setF D p M H m + 2 ^ w1) = liv D m + 1
        unfold qF at x2
        split at x2
        · rename_i cb
          refine ⟨fun e => (by rw [e] at x2; cases x2), (lt8 H (by omega) _ (by omega) b).2.2 w1 x1 cb, ?_⟩
          rw [(or8 _ (by omega) w1 (by omega) cb).2.2, c]
        · cases x2
    · rename_i cl
      rw [if_neg cl, if_neg cl]
      exact ⟨a, b, c⟩
def pA (K : CO) (f : DV → Int32) (D : DV) (g m h : Nat) : Nat := (alS K f D m h g 0).toNatClampNeg
theorem pA_ok {K : CO} {f : DV → Int32} (hf : fR f) (D : DV) (g m h : Nat) : alS K f D m h g 0 = nI (pA K f D g m h) ∧ pA K f D g m h ≤ 99 := by
  obtain ⟨q, h1, h2⟩ := alS_R (K := K) hf D m h g 0
  have e : pA K f D g m h = q := by unfold pA; rw [h2, nI_clamp (by omega)]
  rw [e]
  exact ⟨h2, h1⟩
theorem lb_0 : ∀ m, m < 6 → ∀ A, A < 64 → nI A ||| ((0 : Int32) <<< (nI m &&& 31)) = nI A := by decide +kernel
theorem liv_bc {D : DV} (hF : Flg D) : ∀ m, m ≤ 6 → ∃ A, A < 2 ^ m ∧ livB D m = nI A ∧ pc8 A = liv D m := by
  intro m
  induction m with
  | zero => intro _; exact ⟨0, by decide, rfl, rfl⟩
  | succ m ih =>
    intro hm
    obtain ⟨A, a1, a2, a3⟩ := ih (by omega)
    have a4 := pow6 (show m ≤ 6 by omega)
    rcases hF m (by omega) with e | e
    · refine ⟨A, by rw [Nat.pow_succ]; omega, ?_, ?_⟩
      · rw [livB, e, a2]
        exact lb_0 m (by omega) A (by omega)
      · rw [liv, if_neg (by rw [e]; decide), a3, Nat.add_zero]
    · refine ⟨A + 2 ^ m, by rw [Nat.pow_succ]; omega, ?_, ?_⟩
      · rw [livB, e, a2]
        exact ab_or m (by omega) A (by omega) a1
      · rw [liv, if_pos e, ← a3]
        exact (or8 A (by omega) m (by omega) (ab_hi A (by omega) m (by omega) a1 m (by omega) (Nat.le_refl _))).2.2
