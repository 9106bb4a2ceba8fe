/-! ===== the whole state ===== -/
def SG : Type := CO × (DV → Int32) × DV × (Nat → Nat) × Nat × Nat × (Nat → Option Nat) × Nat × (Nat → DV) × Nat × (Nat → DV) × (Nat → Nat) × (Nat → Nat → DV) × Int32 × Int32 × Int32 × Int32
def SG.K (s : SG) : CO := s.1
def SG.f (s : SG) : DV → Int32 := s.2.1
def SG.D (s : SG) : DV := s.2.2.1
def SG.t (s : SG) : Nat → Nat := s.2.2.2.1
def SG.tn (s : SG) : Nat := s.2.2.2.2.1
def SG.nb (s : SG) : Nat := s.2.2.2.2.2.1
def SG.bk (s : SG) : Nat → Option Nat := s.2.2.2.2.2.2.1
def SG.wn (s : SG) : Nat := s.2.2.2.2.2.2.2.1
def SG.W (s : SG) : Nat → DV := s.2.2.2.2.2.2.2.2.1
def SG.mn (s : SG) : Nat := s.2.2.2.2.2.2.2.2.2.1
def SG.M (s : SG) : Nat → DV := s.2.2.2.2.2.2.2.2.2.2.1
def SG.mw (s : SG) : Nat → Nat := s.2.2.2.2.2.2.2.2.2.2.2.1
def SG.MW (s : SG) : Nat → Nat → DV := s.2.2.2.2.2.2.2.2.2.2.2.2.1
def SG.rs (s : SG) : Int32 := s.2.2.2.2.2.2.2.2.2.2.2.2.2.1
def SG.fl (s : SG) : Int32 := s.2.2.2.2.2.2.2.2.2.2.2.2.2.2.1
def SG.mi (s : SG) : Int32 := s.2.2.2.2.2.2.2.2.2.2.2.2.2.2.2.1
def SG.wr (s : SG) : Int32 := s.2.2.2.2.2.2.2.2.2.2.2.2.2.2.2.2
def mkS (xK : CO) (xf : DV → Int32) (xD : DV) (xt : Nat → Nat) (xtn : Nat) (xnb : Nat) (xbk : Nat → Option Nat) (xwn : Nat) (xW : Nat → DV) (xmn : Nat) (xM : Nat → DV) (xmw : Nat → Nat) (xMW : Nat → Nat → DV) (xrs : Int32) (xfl : Int32) (xmi : Int32) (xwr : Int32) : SG := (xK, xf, xD, xt, xtn, xnb, xbk, xwn, xW, xmn, xM, xmw, xMW, xrs, xfl, xmi, xwr)
def okD (K : CO) (D : DV) : Prop := DI K D ∧ LX D
def SI (s : SG) : Prop := WK s.K ∧ okD s.K s.D ∧ fR s.f ∧ s.tn ≤ 600 ∧ (∀ j, s.t j < 256) ∧ (∀ k v, s.bk k = some v → k < 24 ∧ v ≤ 99) ∧ s.wn ≤ 16 ∧ (∀ j, j < s.wn → okD s.K (s.W j)) ∧ s.mn ≤ 3 ∧ ∀ i, i < s.mn → okD s.K (s.M i) ∧ s.mw i ≤ 16 ∧ ∀ j, j < s.mw i → okD s.K (s.MW i j)
def TapeC (I : FI) (t : Nat → Nat) (tn : Nat) (fl : Int32) : Prop := I 1 1 = nI tn ∧ (∀ j, j < 600 → I 2 j = bI (t j)) ∧ I 1 8 = fl
def PastC (I : FI) (s : SG) : Prop := I 39 3 = nI s.wn ∧ I 39 4 = nI s.mn ∧ (∀ j, j < s.wn → RowC (I 40) (j * 46) (s.W j)) ∧ ∀ i, i < s.mn → I 42 i = nI (s.mw i) ∧ RowC (I 41) (i * 782 + 736) (s.M i) ∧ ∀ j, j < s.mw i → RowC (I 41) (i * 782 + j * 46) (s.MW i j)
/-- the class holds it -/
def SCx (I : FI) (R : FR) (c l b : Nat) (s : SG) : Prop := RC I R c l b s.K s.f s.D ∧ TapeC I s.t s.tn s.fl ∧ BookC I b s.nb s.bk ∧ PastC I s ∧ I 0 12 = s.rs ∧ I 0 13 = s.mi ∧ I 0 14 = s.wr
def SC (I : FI) (R : FR) (s : SG) : Prop := ∃ c l b, SCx I R c l b s
def PastM (I : FI) (s : SG) : Prop := I 69 35 = nI s.wn ∧ I 69 56 = nI s.mn ∧ (∀ j, j < s.wn → ∀ k, k < 51 → I 90 (51 * j + k) = s.W j k) ∧ ∀ i, i < s.mn → I 101 (868 * i + 867) = nI (s.mw i) ∧ (∀ k, k < 51 → I 101 (868 * i + k) = s.M i k) ∧ ∀ j, j < s.mw i → ∀ k, k < 51 → I 101 (868 * i + 51 + (51 * j + k)) = s.MW i j k
/-- the reference holds it -/
def SM (I : FI) (R : FR) (s : SG) : Prop := RM I R s.K s.f s.D ∧ (I 69 2 = nI s.tn ∧ (∀ j, j < 600 → I 71 j = nI (s.t j)) ∧ I 69 8 = s.fl) ∧ BookM I s.nb s.bk ∧ PastM I s ∧ I 69 36 = s.rs ∧ I 70 0 = s.mi ∧ I 70 1 = s.wr
/-- what a refusal counts -/
def bump (k : Nat) (s : SG) : SG := if k = 0 then (mkS s.K s.f s.D s.t s.tn s.nb s.bk s.wn s.W s.mn s.M s.mw s.MW s.rs s.fl (s.mi + 1) s.wr) else (mkS s.K s.f s.D s.t s.tn s.nb s.bk s.wn s.W s.mn s.M s.mw s.MW s.rs s.fl s.mi (s.wr + 1))
def aftO (o : Oc) (s : SG) : SG := match o with
  | .inl _ => s
  | .inr k => bump k s
/-- what a call comes to: an answer and the state behind it -/
abbrev Tr : Type := Oc × SG
def FrCl (I I' : FI) (R R' : FR) : Prop := (∀ a, 69 ≤ a → I' a = I a) ∧ ∀ k, R' 69 k = R 69 k
def HC (I : FI) (R : FR) (J : FJ) (Q : Po) (x : Tr) : Prop := ∀ I' R', SC I' R' x.2 → FrCl I I' R R' → Q (oQ x.1) 103 I' R' J
def HR (I : FI) (R : FR) (J : FJ) (Q : Po) (cd : Nat) (x : Tr) : Prop := match x.1 with
  | .inl v => ∀ I', SM I' R x.2 → (∀ a, a < 69 → I' a = I a) → I' 69 0 = 0 → I' 102 = I 102 → Q (.inl (some (.int v))) 103 I' R J
  | .inr k => ∀ I', SM I' R x.2 → (∀ a, a < 69 → I' a = I a) → I' 69 0 = nI (if k = 0 then 1 else cd) → I' 102 = I 102 → Q (.inl (some (.int 0))) 103 I' R J
theorem SCx.q {I I' : FI} {R : FR} {c l b : Nat} {s : SG} (h : SCx I R c l b s) (hf : FrQ I I') : SCx I' R c l b s := by
  obtain ⟨⟨h1, hc, hl, hb, h5, h6, h7, h8, h9⟩, ⟨t1, t2, t3⟩, hB, ⟨p1, p2, p3, p4⟩, r1, r2, r3⟩ := h
  have g : ∀ a, (a < 15 ∨ 17 < a) → a ≠ 62 → (a < 26 ∨ 38 < a) → (a < 43 ∨ 50 < a) → I' a = I a := hf
  refine ⟨⟨h1, hc, hl, hb, h5.fr (fun a q1 q2 => g a (by omega) (by omega) (by omega) (by omega)), h6, h7.fr (fun a q1 q2 => g a (by omega) (by omega) (by omega) (by omega)), h8, h9.fr (fun a q1 q2 => g a (by omega) (by omega) (by omega) (by omega))⟩, ⟨?_, ?_, ?_⟩, hB.fr (fun a q1 q2 => g a (by omega) (by omega) (by omega) (by omega)), ⟨?_, ?_, ?_, ?_⟩, ?_, ?_, ?_⟩
  · rw [g 1 (by decide) (by decide) (by decide) (by decide)]; exact t1
  · rw [g 2 (by decide) (by decide) (by decide) (by decide)]; exact t2
  · rw [g 1 (by decide) (by decide) (by decide) (by decide)]; exact t3
  · rw [g 39 (by decide) (by decide) (by decide) (by decide)]; exact p1
  · rw [g 39 (by decide) (by decide) (by decide) (by decide)]; exact p2
  · rw [g 40 (by decide) (by decide) (by decide) (by decide)]; exact p3
  · rw [g 41 (by decide) (by decide) (by decide) (by decide), g 42 (by decide) (by decide) (by decide) (by decide)]; exact p4
  · rw [g 0 (by decide) (by decide) (by decide) (by decide)]; exact r1
  · rw [g 0 (by decide) (by decide) (by decide) (by decide)]; exact r2
  · rw [g 0 (by decide) (by decide) (by decide) (by decide)]; exact r3
/-- one of the class's own fields set -/
theorem SCx.f0 {I : FI} {R : FR} {c l b k : Nat} {v : Int32} {s : SG} (h : SCx I R c l b s) : SCx (up2 I 0 k v) R c l b (mkS s.K s.f s.D s.t s.tn s.nb s.bk s.wn s.W s.mn s.M s.mw s.MW (if k = 12 then v else s.rs) s.fl (if k = 13 then v else s.mi) (if k = 14 then v else s.wr)) := by
  obtain ⟨⟨h1, hc, hl, hb, h5, h6, h7, h8, h9⟩, ⟨t1, t2, t3⟩, hB, ⟨p1, p2, p3, p4⟩, r1, r2, r3⟩ := h
  have g : ∀ a, a ≠ 0 → up2 I 0 k v a = I a := fun a q => up2_n _ _ _ q
  refine ⟨⟨h1, hc, hl, hb, h5.fr (fun a q1 q2 => g a (by omega)), h6, h7.fr (fun a q1 q2 => g a (by omega)), h8, h9.fr (fun a q1 q2 => g a (by omega))⟩, ⟨?_, ?_, ?_⟩, hB.fr (fun a q1 q2 => g a (by omega)), ⟨?_, ?_, ?_, ?_⟩, ?_, ?_, ?_⟩
  · rw [g 1 (by decide)]; exact t1
  · rw [g 2 (by decide)]; exact t2
  · rw [g 1 (by decide)]; exact t3
  · rw [g 39 (by decide)]; exact p1
  · rw [g 39 (by decide)]; exact p2
  · rw [g 40 (by decide)]; exact p3
  · rw [g 41 (by decide), g 42 (by decide)]; exact p4
  · rw [up2_s]
    by_cases q : k = 12
    · subst q; rw [upd_s]; show v = if 12 = 12 then v else s.rs; exact (if_pos rfl).symm
    · rw [upd_n (by omega)]; exact r1.trans (if_neg q).symm
  · rw [up2_s]
    by_cases q : k = 13
    · subst q; rw [upd_s]; show v = if 13 = 13 then v else s.mi; exact (if_pos rfl).symm
    · rw [upd_n (by omega)]; exact r2.trans (if_neg q).symm
  · rw [up2_s]
    by_cases q : k = 14
    · subst q; rw [upd_s]; show v = if 14 = 14 then v else s.wr; exact (if_pos rfl).symm
    · rw [upd_n (by omega)]; exact r3.trans (if_neg q).symm
theorem SCx.bump {I : FI} {R : FR} {c l b : Nat} {s : SG} (h : SCx I R c l b s) (k : Nat) (hk : k < 2) : SCx (up2 I 0 (13 + k) (I 0 (13 + k) + 1)) R c l b (bump k s) := by
  have g := h.f0 (k := 13 + k) (v := I 0 (13 + k) + 1)
  obtain ⟨-, -, -, -, r1, r2, r3⟩ := h
  rcases (show k = 0 ∨ k = 1 by omega) with rfl | rfl
  · rw [r2] at g ⊢; exact g
  · rw [r3] at g ⊢; exact g
/-- a question's end -/
theorem HC.q {I : FI} {R : FR} {J : FJ} {Q : Po} {c l b : Nat} {s : SG} {o : Oc} (hX : SCx I R c l b s) (ho : ∀ k, o = .inr k → k < 2) (h : HC I R J Q (o, aftO o s)) : Ho I R J Q o := by
  intro I' hf
  cases o with
  | inl v =>
    have hf' : FrQ I I' := hf
    exact h I' R ⟨c, l, b, hX.q hf'⟩ ⟨fun a ha => hf' a (by omega) (by omega) (by omega) (by omega), fun _ => rfl⟩
  | inr k =>
    have hk := ho k rfl
    have hf' : I' = up2 I 0 (13 + k) (I 0 (13 + k) + 1) := hf
    subst hf'
    exact h _ R ⟨c, l, b, hX.bump k hk⟩ ⟨fun a ha => up2_n _ _ _ (by omega), fun _ => rfl⟩
theorem ck2N {x : Int32} {c : Nat} {o : Oc} (h : ∀ k, o = .inr k → k < 2) : ∀ k, ckN x c o = .inr k → k < 2 := fun k e => by
  unfold ckN at e; split at e
  · exact h k e
  · cases e; decide
theorem ck2W {x lo hi : Int32} {o : Oc} (h : ∀ k, o = .inr k → k < 2) : ∀ k, ckW x lo hi o = .inr k → k < 2 := fun k e => by
  unfold ckW at e; split at e
  · exact h k e
  · cases e; decide
theorem ck2I {v : Int32} : ∀ k, (Sum.inl v : Oc) = .inr k → k < 2 := fun _ e => by cases e
/-! the reference's questions -/
theorem SM.q {I I' : FI} {R : FR} {s : SG} (h : SM I R s) (hf : FrM I I') : SM I' R s := by
  obtain ⟨h1, ⟨t1, t2, t3⟩, ⟨b1, b2⟩, ⟨p1, p2, p3, p4⟩, r1, r2, r3⟩ := h
  obtain ⟨a1, a2, a3⟩ := id hf
  have g : ∀ a, a ≠ 69 → a ≠ 84 → a ≠ 85 → a ≠ 89 → a ≠ 91 → (a < 94 ∨ 100 < a) → I' a = I a := a1
  have z : ∀ j, j ≠ 0 → j ≠ 54 → I' 69 j = I 69 j := a3
  refine ⟨h1.fr hf, ⟨?_, ?_, ?_⟩, ⟨?_, ?_⟩, ⟨?_, ?_, ?_, ?_⟩, ?_, ?_, ?_⟩
  · rw [z 2 (by decide) (by decide)]; exact t1
  · rw [g 71 (by decide) (by decide) (by decide) (by decide) (by decide) (by decide)]; exact t2
  · rw [z 8 (by decide) (by decide)]; exact t3
  · rw [z 46 (by decide) (by decide)]; exact b1
  · rw [g 93 (by decide) (by decide) (by decide) (by decide) (by decide) (by decide)]; exact b2
  · rw [z 35 (by decide) (by decide)]; exact p1
  · rw [z 56 (by decide) (by decide)]; exact p2
  · rw [g 90 (by decide) (by decide) (by decide) (by decide) (by decide) (by decide)]; exact p3
  · rw [g 101 (by decide) (by decide) (by decide) (by decide) (by decide) (by decide)]; exact p4
  · rw [z 36 (by decide) (by decide)]; exact r1
  · rw [g 70 (by decide) (by decide) (by decide) (by decide) (by decide) (by decide)]; exact r2
  · rw [g 70 (by decide) (by decide) (by decide) (by decide) (by decide) (by decide)]; exact r3
/-- only its refusals' counts and what it has thrown differ -/
theorem SM.x {I I' : FI} {R : FR} {s : SG} {k : Nat} (hk : k < 2) (h : SM I R s) (g : ∀ a, a ≠ 69 → a ≠ 70 → I' a = I a) (z : ∀ j, j ≠ 0 → I' 69 j = I 69 j) (e : I' 70 = upd (I 70) k (I 70 k + 1)) : SM I' R (bump k s) := by
  obtain ⟨⟨m1, m2, m3, m4, m5, m6, m7⟩, ⟨t1, t2, t3⟩, ⟨b1, b2⟩, ⟨p1, p2, p3, p4⟩, r1, r2, r3⟩ := h
  have key : SM I' R (mkS s.K s.f s.D s.t s.tn s.nb s.bk s.wn s.W s.mn s.M s.mw s.MW s.rs s.fl (I' 70 0) (I' 70 1)) := by
    refine ⟨⟨m1, m2.fr (z 21 (by decide)) (z 22 (by decide)) (z 23 (by decide)) (fun a q1 q2 => g a (by omega) (by omega)), m3, fun k hk => by rw [g 88 (by decide) (by decide)]; exact m4 k hk, m5, m6.fr (z 30 (by decide)) (g 82 (by decide) (by decide)) (g 83 (by decide) (by decide)), m7⟩, ⟨?_, ?_, ?_⟩, ⟨?_, ?_⟩, ⟨?_, ?_, ?_, ?_⟩, ?_, rfl, rfl⟩
    · rw [z 2 (by decide)]; exact t1
    · rw [g 71 (by decide) (by decide)]; exact t2
    · rw [z 8 (by decide)]; exact t3
    · rw [z 46 (by decide)]; exact b1
    · rw [g 93 (by decide) (by decide)]; exact b2
    · rw [z 35 (by decide)]; exact p1
    · rw [z 56 (by decide)]; exact p2
    · rw [g 90 (by decide) (by decide)]; exact p3
    · rw [g 101 (by decide) (by decide)]; exact p4
    · rw [z 36 (by decide)]; exact r1
  rcases (show k = 0 ∨ k = 1 by omega) with rfl | rfl
  · have e0 : I' 70 0 = s.mi + 1 := by rw [e, upd_s, r2]
    have e1 : I' 70 1 = s.wr := by rw [e, upd_n (by decide)]; exact r3
    rw [e0, e1] at key; exact key
  · have e0 : I' 70 0 = s.mi := by rw [e, upd_n (by decide)]; exact r2
    have e1 : I' 70 1 = s.wr + 1 := by rw [e, upd_s, r3]
    rw [e0, e1] at key; exact key
theorem HR.q {I : FI} {R : FR} {J : FJ} {Q : Po} {s : SG} {o : Oc} {cd : Nat} (hX : SM I R s) (ho : ∀ k, o = .inr k → k < 2) (h : HR I R J Q cd (o, aftO o s)) : HoM I R J Q cd o := by
  cases o with
  | inl v => exact fun I' hf => h I' (hX.q hf) (fun a ha => hf.1 a (by omega) (by omega) (by omega) (by omega) (by omega) (by omega)) hf.2.1 (hf.1 102 (by decide) (by decide) (by decide) (by decide) (by decide) (by decide))
  | inr k => exact fun I' g z e0 e => h I' (hX.x (ho k rfl) g z e) (fun a ha => g a (by omega) (by omega)) e0 (g 102 (by decide) (by decide))
