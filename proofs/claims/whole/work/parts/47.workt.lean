/-! ===== WORK's text ===== -/
abbrev SR : Type := Nat → Nat × Nat × Nat × Nat
abbrev WR : Type := FT ⊕ ((Nat × SR) × Nat)
def upS (S : SR) (i : Nat) (v : Nat × Nat × Nat × Nat) : SR := fun j => if j = i then v else S j
theorem upS_s {S : SR} {i : Nat} {v : Nat × Nat × Nat × Nat} : upS S i v i = v := if_pos rfl
theorem upS_n {S : SR} {i j : Nat} {v : Nat × Nat × Nat × Nat} (h : j ≠ i) : upS S i v j = S j := if_neg h
def kwF (t : Nat → Nat) (z p : Nat) : Option Nat := if wcF t z p = ocF 15 then some 0 else if wcF t z p = ocF 16 then some 1 else if wcF t z p = ocF 17 then some 2 else if wcF t z p = ocF 18 then some 3 else if wcF t z p = ocF 19 then some 4 else if wcF t z p = ocF 20 then some 5 else if wcF t z p = ocF 21 then some 6 else if wcF t z p = ocF 22 then some 7 else none
def pOps (t : Nat → Nat) (z : Nat) (K : CO) (k p : Nat) : FT ⊕ ((Nat × Nat) × Nat) := if k = 6 then .inr ((0, 0), p) else if k = 4 then bd (pNum t z 0 (cH K) p) (fun x => .inr ((x.1, 0), x.2)) else bd (pNum t z 0 (cM K) p) (fun x => if k = 0 then bd (pNum t z 0 (cH K) x.2) (fun y => .inr ((x.1, y.1), y.2)) else if k = 2 then bd (pNum t z 0 (cG K) x.2) (fun y => .inr ((x.1, y.1), y.2)) else .inr ((x.1, 0), x.2))
def pAg (bod : Nat → SR → Nat → WR) (t : Nat → Nat) (z n : Nat) (S : SR) (p : Nat) : WR := bd (pNum t z 0 31 (nx t z p)) (fun x => bd (pSig t z 91 x.2) (fun q => bd (bod (n + 1) (upS S n (7, x.1, 0, 0)) q) (fun y => bd (pSig t z 93 y.2) (fun q2 => .inr ((y.1.1, upS y.1.2 n (7, x.1, 0, y.1.1)), q2)))))
def pSt (ag : Nat → SR → Nat → WR) (t : Nat → Nat) (z : Nat) (K : CO) (n : Nat) (S : SR) (p : Nat) : WR := match kwF t z p with
  | none => .inl (1, p)
  | some k => if k = 7 then ag n S p else bd (pOps t z K k (nx t z p)) (fun x => .inr ((n + 1, upS S n (k, x.1.1, x.1.2, n + 1)), x.2))
def pSs (st : Nat → SR → Nat → WR) (t : Nat → Nat) (z n : Nat) (S : SR) (p : Nat) : WR := bd (st n S p) (fun x => bd (pSig t z 59 x.2) (fun q => .inr (x.1, q)))
def pBo (ss : Nat → SR → Nat → WR) (t : Nat → Nat) (z : Nat) : Nat → Nat → SR → Nat → WR
  | 0, _, _, p => .inl (1, p)
  | f + 1, n, S, p => if p < z ∧ t p = 93 then .inr ((n, S), p) else if z ≤ p then .inl (1, p) else bd (ss n S p) (fun x => pBo ss t z f x.1.1 x.1.2 x.2)
def pTo (ss : Nat → SR → Nat → WR) (z : Nat) : Nat → Nat → SR → Nat → WR
  | 0, _, _, p => .inl (1, p)
  | f + 1, n, S, p => if z ≤ p then .inr ((n, S), p) else bd (ss n S p) (fun x => pTo ss z f x.1.1 x.1.2 x.2)
def pLv (t : Nat → Nat) (z : Nat) (K : CO) : Nat → Nat → SR → Nat → WR
  | 0 => pSt (fun _ _ p => .inl (3, p)) t z K
  | lev + 1 => pSt (pAg (pBo (pSs (pLv t z K lev) t z) t z (z + 1)) t z) t z K
def S0 : SR := fun _ => (0, 0, 0, 0)
def wkF (t : Nat → Nat) (z : Nat) (K : CO) : WR := pTo (pSs (pLv t z K 6) t z) z (z + 1) 0 S0 (sk t z 0)
/-! well-formed STEPS, from i to j; lev: how many agains may still be opened -/
def OpOk (K : CO) (k a b : Nat) : Prop := (k = 0 → a < cM K ∧ b < cH K) ∧ (k = 1 → a < cM K) ∧ (k = 2 → a < cM K ∧ b < cG K) ∧ (k = 3 → a < cM K) ∧ (k = 4 → a < cH K) ∧ (k = 5 → a < cM K)
def StOk (ag : Nat → Nat → Prop) (K : CO) (s : Nat × Nat × Nat × Nat) (i : Nat) : Prop := i < s.2.2.2 ∧ ((s.1 = 7 ∧ s.2.1 ≤ 30 ∧ ag (i + 1) s.2.2.2) ∨ (s.1 ≤ 6 ∧ s.2.2.2 = i + 1 ∧ OpOk K s.1 s.2.1 s.2.2.1))
def ChF (ag : Nat → Nat → Prop) (K : CO) (S : SR) : Nat → Nat → Nat → Prop
  | 0, i, j => i = j
  | f + 1, i, j => i = j ∨ (i < j ∧ StOk ag K (S i) i ∧ (S i).2.2.2 ≤ j ∧ ChF ag K S f (S i).2.2.2 j)
def Ch (K : CO) (S : SR) : Nat → Nat → Nat → Prop
  | 0, i, j => ∃ f, ChF (fun _ _ => False) K S f i j
  | lev + 1, i, j => ∃ f, ChF (Ch K S lev) K S f i j
def AgC (K : CO) (S : SR) (lev : Nat) : Nat → Nat → Prop := match lev with
  | 0 => fun _ _ => False
  | lev + 1 => Ch K S lev
theorem Ch_iff {K : CO} {S : SR} {lev i j : Nat} : Ch K S lev i j ↔ ∃ f, ChF (AgC K S lev) K S f i j := by
  cases lev <;> rfl
theorem Ch.nil {K : CO} {S : SR} {lev i : Nat} : Ch K S lev i i := Ch_iff.mpr ⟨0, rfl⟩
theorem Ch.cons {K : CO} {S : SR} {lev i j : Nat} (h : StOk (AgC K S lev) K (S i) i) (h2 : (S i).2.2.2 ≤ j) (h3 : Ch K S lev (S i).2.2.2 j) : Ch K S lev i j := by
  obtain ⟨f, hf⟩ := Ch_iff.mp h3
  exact Ch_iff.mpr ⟨f + 1, Or.inr ⟨Nat.lt_of_lt_of_le h.1 h2, h, h2, hf⟩⟩
theorem Ch.go {K : CO} {S : SR} {lev i j : Nat} (h : Ch K S lev i j) (hij : i < j) : StOk (AgC K S lev) K (S i) i ∧ (S i).2.2.2 ≤ j ∧ Ch K S lev (S i).2.2.2 j := by
  obtain ⟨f, hf⟩ := Ch_iff.mp h
  cases f with
  | zero => have e : i = j := hf; omega
  | succ f =>
    rcases hf with e | ⟨-, h1, h2, h3⟩
    · omega
    · exact ⟨h1, h2, Ch_iff.mpr ⟨f, h3⟩⟩
theorem ChF.cg {ag ag' : Nat → Nat → Prop} {K : CO} {S S' : SR} {j : Nat} (hag : ∀ a b, b ≤ j → ag a b → (∀ x, a ≤ x → x < b → S' x = S x) → ag' a b) : ∀ f i, (∀ x, i ≤ x → x < j → S' x = S x) → ChF ag K S f i j → ChF ag' K S' f i j := by
  intro f
  induction f with
  | zero => intro i _ h; exact h
  | succ f ih =>
    intro i hS h
    rcases h with e | ⟨h0, ⟨h1, h2⟩, h3, h4⟩
    · exact Or.inl e
    · refine Or.inr ⟨h0, ?_⟩
      rw [hS i (Nat.le_refl _) h0]
      refine ⟨⟨h1, h2.imp (fun q => ⟨q.1, q.2.1, hag _ _ h3 q.2.2 (fun x a b => hS x (by omega) (by omega))⟩) id⟩, h3, ih _ (fun x a b => hS x (by omega) b) h4⟩
theorem Ch.cg {K : CO} {S S' : SR} : ∀ lev i j, (∀ x, i ≤ x → x < j → S' x = S x) → Ch K S lev i j → Ch K S' lev i j := by
  intro lev
  induction lev with
  | zero =>
    intro i j hS ⟨f, hf⟩
    exact ⟨f, ChF.cg (fun a b _ h _ => h) f i hS hf⟩
  | succ lev ih =>
    intro i j hS ⟨f, hf⟩
    exact ⟨f, ChF.cg (fun a b _ h hx => ih a b hx h) f i hS hf⟩
theorem StOk.cg {K : CO} {S S' : SR} {lev i : Nat} {s : Nat × Nat × Nat × Nat} (h : StOk (AgC K S lev) K s i) (hS : ∀ x, i < x → x < s.2.2.2 → S' x = S x) : StOk (AgC K S' lev) K s i := by
  refine ⟨h.1, h.2.imp (fun q => ⟨q.1, q.2.1, ?_⟩) id⟩
  cases lev with
  | zero => exact q.2.2
  | succ lev => exact Ch.cg lev _ _ (fun x a b => hS x (by omega) b) q.2.2
/-- what a reader of a STEP gives (sl: 1 if its ";" is still to come) -/
def OkW (t : Nat → Nat) (z : Nat) (K : CO) (lev sl : Nat) (st : Nat → SR → Nat → WR) : Prop := ∀ n S p n' S' p', p ≤ z → st n S p = .inr ((n', S'), p') → p < p' ∧ p' ≤ z ∧ n < n' ∧ 5 * n' + p ≤ 5 * n + p' + sl ∧ (∀ i, i < n → S' i = S i) ∧ (S' n).2.2.2 = n' ∧ StOk (AgC K S' lev) K (S' n) n
theorem kw_len {t : Nat → Nat} {z p k : Nat} (hp : p ≤ z) (h : kwF t z p = some k) : k ≤ 7 ∧ p < z ∧ sc le_ t z p = enF t z p ∧ p + (if k = 7 then 5 else if k = 6 then 4 else 3) ≤ enF t z p := by
  unfold kwF at h
  by_cases c0 : wcF t z p = ocF 15
  · rw [if_pos c0] at h
    cases h
    obtain ⟨a, b⟩ := en_wd hp (wdo 15 (by decide) (by decide) (by decide)) c0
    have q := ((wc_iff hp (wdo 15 (by decide) (by decide) (by decide))).mp c0).1
    rw [a, show stL 15 = 4 from rfl] at q
    exact ⟨by decide, b, a, by simp; omega⟩
  by_cases c1 : wcF t z p = ocF 16
  · rw [if_neg c0, if_pos c1] at h
    cases h
    obtain ⟨a, b⟩ := en_wd hp (wdo 16 (by decide) (by decide) (by decide)) c1
    have q := ((wc_iff hp (wdo 16 (by decide) (by decide) (by decide))).mp c1).1
    rw [a, show stL 16 = 4 from rfl] at q
    exact ⟨by decide, b, a, by simp; omega⟩
  by_cases c2 : wcF t z p = ocF 17
  · rw [if_neg c0, if_neg c1, if_pos c2] at h
    cases h
    obtain ⟨a, b⟩ := en_wd hp (wdo 17 (by decide) (by decide) (by decide)) c2
    have q := ((wc_iff hp (wdo 17 (by decide) (by decide) (by decide))).mp c2).1
    rw [a, show stL 17 = 4 from rfl] at q
    exact ⟨by decide, b, a, by simp; omega⟩
  by_cases c3 : wcF t z p = ocF 18
  · rw [if_neg c0, if_neg c1, if_neg c2, if_pos c3] at h
    cases h
    obtain ⟨a, b⟩ := en_wd hp (wdo 18 (by decide) (by decide) (by decide)) c3
    have q := ((wc_iff hp (wdo 18 (by decide) (by decide) (by decide))).mp c3).1
    rw [a, show stL 18 = 4 from rfl] at q
    exact ⟨by decide, b, a, by simp; omega⟩
  by_cases c4 : wcF t z p = ocF 19
  · rw [if_neg c0, if_neg c1, if_neg c2, if_neg c3, if_pos c4] at h
    cases h
    obtain ⟨a, b⟩ := en_wd hp (wdo 19 (by decide) (by decide) (by decide)) c4
    have q := ((wc_iff hp (wdo 19 (by decide) (by decide) (by decide))).mp c4).1
    rw [a, show stL 19 = 3 from rfl] at q
    exact ⟨by decide, b, a, by simp; omega⟩
  by_cases c5 : wcF t z p = ocF 20
  · rw [if_neg c0, if_neg c1, if_neg c2, if_neg c3, if_neg c4, if_pos c5] at h
    cases h
    obtain ⟨a, b⟩ := en_wd hp (wdo 20 (by decide) (by decide) (by decide)) c5
    have q := ((wc_iff hp (wdo 20 (by decide) (by decide) (by decide))).mp c5).1
    rw [a, show stL 20 = 3 from rfl] at q
    exact ⟨by decide, b, a, by simp; omega⟩
  by_cases c6 : wcF t z p = ocF 21
  · rw [if_neg c0, if_neg c1, if_neg c2, if_neg c3, if_neg c4, if_neg c5, if_pos c6] at h
    cases h
    obtain ⟨a, b⟩ := en_wd hp (wdo 21 (by decide) (by decide) (by decide)) c6
    have q := ((wc_iff hp (wdo 21 (by decide) (by decide) (by decide))).mp c6).1
    rw [a, show stL 21 = 4 from rfl] at q
    exact ⟨by decide, b, a, by simp; omega⟩
  by_cases c7 : wcF t z p = ocF 22
  · rw [if_neg c0, if_neg c1, if_neg c2, if_neg c3, if_neg c4, if_neg c5, if_neg c6, if_pos c7] at h
    cases h
    obtain ⟨a, b⟩ := en_wd hp (wdo 22 (by decide) (by decide) (by decide)) c7
    have q := ((wc_iff hp (wdo 22 (by decide) (by decide) (by decide))).mp c7).1
    rw [a, show stL 22 = 5 from rfl] at q
    exact ⟨by decide, b, a, by simp; omega⟩
  rw [if_neg c0, if_neg c1, if_neg c2, if_neg c3, if_neg c4, if_neg c5, if_neg c6, if_neg c7] at h
  cases h
theorem pOps_ok {t : Nat → Nat} {z k p : Nat} {K : CO} {x : (Nat × Nat) × Nat} (hk : k ≤ 6) (hp : p ≤ z) (h : pOps t z K k p = .inr x) : OpOk K k x.1.1 x.1.2 ∧ x.2 ≤ z ∧ p ≤ x.2 ∧ (k ≠ 6 → p < x.2) := by
  unfold pOps at h
  by_cases c6 : k = 6
  · rw [if_pos c6] at h
    cases h
    subst c6
    exact ⟨⟨fun e => absurd e (by decide), fun e => absurd e (by decide), fun e => absurd e (by decide), fun e => absurd e (by decide), fun e => absurd e (by decide), fun e => absurd e (by decide)⟩, hp, Nat.le_refl _, fun e => absurd rfl e⟩
  · rw [if_neg c6] at h
    by_cases c4 : k = 4
    · rw [if_pos c4] at h
      cases e1 : pNum t z 0 (cH K) p with
      | inl y => rw [bd_no e1] at h; cases h
      | inr y =>
        rw [bd_ok e1] at h
        cases h
        obtain ⟨-, -, -, a2, -, -, a3, a4⟩ := pNum_ok (v := y.1) (p' := y.2) e1
        subst c4
        exact ⟨⟨fun e => absurd e (by decide), fun e => absurd e (by decide), fun e => absurd e (by decide), fun e => absurd e (by decide), fun _ => a2, fun e => absurd e (by decide)⟩, a4, Nat.le_of_lt a3, fun _ => a3⟩
    · rw [if_neg c4] at h
      cases e1 : pNum t z 0 (cM K) p with
      | inl y => rw [bd_no e1] at h; cases h
      | inr y =>
        rw [bd_ok e1] at h
        obtain ⟨-, -, -, a2, -, -, a3, a4⟩ := pNum_ok (v := y.1) (p' := y.2) e1
        by_cases c0 : k = 0
        · rw [if_pos c0] at h
          cases e2 : pNum t z 0 (cH K) y.2 with
          | inl w => rw [bd_no e2] at h; cases h
          | inr w =>
            rw [bd_ok e2] at h
            cases h
            obtain ⟨-, -, -, b2, -, -, b3, b4⟩ := pNum_ok (v := w.1) (p' := w.2) e2
            subst c0
            exact ⟨⟨fun _ => ⟨a2, b2⟩, fun e => absurd e (by decide), fun e => absurd e (by decide), fun e => absurd e (by decide), fun e => absurd e (by decide), fun e => absurd e (by decide)⟩, b4, by show p ≤ w.2; omega, fun _ => by show p < w.2; omega⟩
        · rw [if_neg c0] at h
          by_cases c2 : k = 2
          · rw [if_pos c2] at h
            cases e2 : pNum t z 0 (cG K) y.2 with
            | inl w => rw [bd_no e2] at h; cases h
            | inr w =>
              rw [bd_ok e2] at h
              cases h
              obtain ⟨-, -, -, b2, -, -, b3, b4⟩ := pNum_ok (v := w.1) (p' := w.2) e2
              subst c2
              exact ⟨⟨fun e => absurd e (by decide), fun e => absurd e (by decide), fun _ => ⟨a2, b2⟩, fun e => absurd e (by decide), fun e => absurd e (by decide), fun e => absurd e (by decide)⟩, b4, by show p ≤ w.2; omega, fun _ => by show p < w.2; omega⟩
          · rw [if_neg c2] at h
            cases h
            exact ⟨⟨fun e => absurd e c0, fun _ => a2, fun e => absurd e c2, fun _ => a2, fun e => absurd e c4, fun _ => a2⟩, a4, Nat.le_of_lt a3, fun _ => a3⟩
theorem pSt_ok {t : Nat → Nat} {z lev : Nat} {K : CO} {ag : Nat → SR → Nat → WR} (hag : ∀ n S p n' S' p', p ≤ z → kwF t z p = some 7 → ag n S p = .inr ((n', S'), p') → p < p' ∧ p' ≤ z ∧ n < n' ∧ 5 * n' + p ≤ 5 * n + p' + 1 ∧ (∀ i, i < n → S' i = S i) ∧ (S' n).2.2.2 = n' ∧ StOk (AgC K S' lev) K (S' n) n) : OkW t z K lev 1 (pSt ag t z K) := by
  intro n S p n' S' p' hp h
  unfold pSt at h
  cases e : kwF t z p with
  | none => rw [e] at h; cases h
  | some k =>
    rw [e] at h
    dsimp only at h
    obtain ⟨k1, k2, k3, k4⟩ := kw_len hp e
    by_cases c7 : k = 7
    · rw [if_pos c7] at h
      subst c7
      exact hag n S p n' S' p' hp e h
    · rw [if_neg c7] at h k4
      obtain ⟨z1, z2, -⟩ := sk_z (t := t) (enF_z (t := t) hp).2.1
      cases e1 : pOps t z K k (nx t z p) with
      | inl y => rw [bd_no e1] at h; cases h
      | inr y =>
        rw [bd_ok e1] at h
        obtain ⟨o1, o2, o3, o4⟩ := pOps_ok (by omega) (nx_z hp).2.1 e1
        cases h
        have nxe : nx t z p = sk t z (enF t z p) := rfl
        have q1 : p + 4 ≤ y.2 := by
          by_cases c6 : k = 6
          · rw [if_pos c6] at k4; omega
          · rw [if_neg c6] at k4; have := o4 c6; omega
        refine ⟨by omega, o2, by omega, by omega, fun i hi => upS_n (by omega), by rw [upS_s], ?_⟩
        rw [upS_s]
        exact ⟨Nat.lt_succ_self n, Or.inr ⟨by show k ≤ 6; omega, rfl, o1⟩⟩
theorem pSs_ok {t : Nat → Nat} {z lev : Nat} {K : CO} {st : Nat → SR → Nat → WR} (h : OkW t z K lev 1 st) : OkW t z K lev 0 (pSs st t z) := by
  intro n S p n' S' p' hp e
  unfold pSs at e
  cases e1 : st n S p with
  | inl y => rw [bd_no e1] at e; cases e
  | inr y =>
    obtain ⟨⟨n1, S1⟩, p1⟩ := y
    rw [bd_ok e1] at e
    cases e2 : pSig t z 59 p1 with
    | inl w => rw [bd_no e2] at e; cases e
    | inr w =>
      rw [bd_ok e2] at e
      cases e
      obtain ⟨a1, a2, a3, a4, a5, a6, a7⟩ := h n S p _ _ _ hp e1
      obtain ⟨-, -, -, b1, b2⟩ := pSig_ok e2
      exact ⟨by omega, b2, a3, by omega, a5, a6, a7⟩
theorem pBo_ok {t : Nat → Nat} {z lev : Nat} {K : CO} {ss : Nat → SR → Nat → WR} (h : OkW t z K lev 0 ss) : ∀ f n S p n' S' p', p ≤ z → pBo ss t z f n S p = .inr ((n', S'), p') → p ≤ p' ∧ p' < z ∧ t p' = 93 ∧ n ≤ n' ∧ 5 * n' + p ≤ 5 * n + p' ∧ (∀ i, i < n → S' i = S i) ∧ Ch K S' lev n n' := by
  intro f
  induction f with
  | zero => intro n S p n' S' p' _ e; cases e
  | succ f ih =>
    intro n S p n' S' p' hp e
    rw [pBo] at e
    by_cases c1 : p < z ∧ t p = 93
    · rw [if_pos c1] at e
      cases e
      exact ⟨Nat.le_refl _, c1.1, c1.2, Nat.le_refl _, Nat.le_refl _, fun _ _ => rfl, Ch.nil⟩
    · rw [if_neg c1] at e
      by_cases c2 : z ≤ p
      · rw [if_pos c2] at e; cases e
      · rw [if_neg c2] at e
        cases e1 : ss n S p with
        | inl y => rw [bd_no e1] at e; cases e
        | inr y =>
          rw [bd_ok e1] at e
          obtain ⟨a1, a2, a3, a4, a5, a6, a7⟩ := h n S p y.1.1 y.1.2 y.2 hp e1
          obtain ⟨b1, b2, b3, b4, b5, b6, b7⟩ := ih _ _ _ _ _ _ a2 e
          have e3 : S' n = y.1.2 n := b6 n a3
          refine ⟨by omega, b2, b3, by omega, by omega, fun i hi => (b6 i (by omega)).trans (a5 i hi), Ch.cons ?_ (by rw [e3, a6]; exact b4) (by rw [e3, a6]; exact b7)⟩
          rw [e3]
          exact a7.cg (fun x q1 q2 => b6 x (by omega))
theorem pTo_ok {t : Nat → Nat} {z lev : Nat} {K : CO} {ss : Nat → SR → Nat → WR} (h : OkW t z K lev 0 ss) : ∀ f n S p n' S' p', p ≤ z → pTo ss z f n S p = .inr ((n', S'), p') → p ≤ p' ∧ p' ≤ z ∧ n ≤ n' ∧ 5 * n' + p ≤ 5 * n + p' ∧ (∀ i, i < n → S' i = S i) ∧ Ch K S' lev n n' := by
  intro f
  induction f with
  | zero => intro n S p n' S' p' _ e; cases e
  | succ f ih =>
    intro n S p n' S' p' hp e
    rw [pTo] at e
    by_cases c2 : z ≤ p
    · rw [if_pos c2] at e
      cases e
      exact ⟨Nat.le_refl _, hp, Nat.le_refl _, Nat.le_refl _, fun _ _ => rfl, Ch.nil⟩
    · rw [if_neg c2] at e
      cases e1 : ss n S p with
      | inl y => rw [bd_no e1] at e; cases e
      | inr y =>
        rw [bd_ok e1] at e
        obtain ⟨a1, a2, a3, a4, a5, a6, a7⟩ := h n S p y.1.1 y.1.2 y.2 hp e1
        obtain ⟨b1, b2, b4, b5, b6, b7⟩ := ih _ _ _ _ _ _ a2 e
        have e3 : S' n = y.1.2 n := b6 n a3
        refine ⟨by omega, b2, by omega, by omega, fun i hi => (b6 i (by omega)).trans (a5 i hi), Ch.cons ?_ (by rw [e3, a6]; exact b4) (by rw [e3, a6]; exact b7)⟩
        rw [e3]
        exact a7.cg (fun x q1 q2 => b6 x (by omega))
theorem pAg_ok {t : Nat → Nat} {z lev f : Nat} {K : CO} {ss : Nat → SR → Nat → WR} (h : OkW t z K lev 0 ss) : ∀ n S p n' S' p', p ≤ z → kwF t z p = some 7 → pAg (pBo ss t z f) t z n S p = .inr ((n', S'), p') → p < p' ∧ p' ≤ z ∧ n < n' ∧ 5 * n' + p ≤ 5 * n + p' + 1 ∧ (∀ i, i < n → S' i = S i) ∧ (S' n).2.2.2 = n' ∧ StOk (AgC K S' (lev + 1)) K (S' n) n := by
  intro n S p n' S' p' hp hw e
  obtain ⟨-, k2, -, k4⟩ := kw_len hp hw
  rw [if_pos rfl] at k4
  obtain ⟨z1, z2, -⟩ := sk_z (t := t) (enF_z (t := t) hp).2.1
  have nxe : nx t z p = sk t z (enF t z p) := rfl
  unfold pAg at e
  cases e1 : pNum t z 0 31 (nx t z p) with
  | inl x => rw [bd_no e1] at e; cases e
  | inr x =>
    rw [bd_ok e1] at e
    obtain ⟨-, -, -, x1, -, -, x2, x3⟩ := pNum_ok (v := x.1) (p' := x.2) e1
    cases e2 : pSig t z 91 x.2 with
    | inl q => rw [bd_no e2] at e; cases e
    | inr q =>
      rw [bd_ok e2] at e
      obtain ⟨-, -, -, q1, q2⟩ := pSig_ok e2
      cases e3 : pBo ss t z f (n + 1) (upS S n (7, x.1, 0, 0)) q with
      | inl y => rw [bd_no e3] at e; cases e
      | inr y =>
        rw [bd_ok e3] at e
        obtain ⟨b1, b2, b3, b4, b5, b6, b7⟩ := pBo_ok h f _ _ _ y.1.1 y.1.2 y.2 q2 e3
        cases e4 : pSig t z 93 y.2 with
        | inl w => rw [bd_no e4] at e; cases e
        | inr w =>
          rw [bd_ok e4] at e
          obtain ⟨-, -, -, w1, w2⟩ := pSig_ok e4
          cases e
          refine ⟨by omega, w2, by omega, by omega, fun i hi => ?_, by rw [upS_s], ?_⟩
          · rw [upS_n (by omega), b6 i (by omega), upS_n (by omega)]
          · rw [upS_s]
            exact ⟨by show n < y.1.1; omega, Or.inl ⟨rfl, by show x.1 ≤ 30; omega, Ch.cg lev _ _ (fun x q1 q2 => upS_n (by omega)) b7⟩⟩
theorem pLv_ok {t : Nat → Nat} {z : Nat} {K : CO} : ∀ lev, OkW t z K lev 1 (pLv t z K lev) := by
  intro lev
  induction lev with
  | zero => exact pSt_ok (fun n S p n' S' p' _ _ e => by cases e)
  | succ lev ih => exact pSt_ok (pAg_ok (pSs_ok ih))
theorem wkF_ok {t : Nat → Nat} {z : Nat} {K : CO} {n : Nat} {S : SR} {p : Nat} (h : wkF t z K = .inr ((n, S), p)) : 5 * n ≤ z ∧ Ch K S 6 0 n := by
  obtain ⟨a1, a2, a3, a4, a5, a6⟩ := pTo_ok (pSs_ok (pLv_ok 6)) _ _ _ _ _ _ _ (sk_z (Nat.zero_le z)).2.1 h
  exact ⟨by omega, a6⟩
