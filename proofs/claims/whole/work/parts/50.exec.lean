/-! ===== STEPS done ===== -/
def LX (D : DV) : Prop := (∀ h, h < 8 → ∃ q, q ≤ 9 ∧ D (36 + h) = nI q) ∧ ∃ q, q ≤ 900 ∧ D 50 = nI q
theorem LX.eq {D E : DV} (h : LX D) (h1 : ∀ q, q < 8 → E (36 + q) = D (36 + q)) (h2 : E 50 = D 50) : LX E := ⟨fun q hq => by rw [h1 q hq]; exact h.1 q hq, by rw [h2]; exact h.2⟩
def goF (K : CO) (f : DV → Int32) (D : DV) (k a b : Nat) : Option DV := match k with
  | 0 => if D (30 + a) = 1 ∧ wearF D (nI b) 6 0 = -1 then some (upd D a (nI b)) else none
  | 1 => if D a = -1 then none else some (upd D a (-1))
  | 2 => if D (30 + a) = 1 ∧ ¬ D (6 + a) = nI b ∧ ¬ D a = -1 then some (upd (upd D (6 + a) (nI b)) (12 + a) 0) else none
  | 3 => if D (6 + a) = -1 then none else some (dHome D a)
  | 4 => if D (36 + a) < 9 then some (upd D (36 + a) (D (36 + a) + 1)) else none
  | 5 => if D (30 + a) = 1 then some (dDie D a (cHr K a)) else none
  | _ => if D 50 < 900 then some (passD K f D) else none
theorem hs1_keep {K : CO} {S D : DV} {m i : Nat} (hm : m < 6) (hk : ∀ j, cHr K m = some j → j < 6) (hi : 36 ≤ i) : hs1 K S D m i = D i := by
  have e : ∀ X : DV, dDie X m (cHr K m) i = X i := fun X => dDie_keep hm hk (by omega) (by omega) (by omega) (by omega)
  unfold hs1
  split
  · split
    · rw [e, upd_n (by omega)]
    · rw [upd_n (by omega)]
  · rw [upd_n (by omega)]
theorem hs2_keep36 {K : CO} {S D : DV} (hW : WK K) {i : Nat} (hi : 36 ≤ i) : ∀ n, n ≤ cM K → hs2 K S D n i = D i := by
  have h6 := hW.2.2.1
  intro n
  induction n with
  | zero => intro _; rfl
  | succ n ih =>
    intro hn
    show hs1 K S (hs2 K S D n) n i = D i
    rw [hs1_keep (by omega) (fun j e => by have := hW.2.2.2.1 n j e; omega) hi]
    exact ih (by omega)
theorem tk3_keep36 {K : CO} {S E : DV} (hW : WK K) (hw : WD K E) {i : Nat} (hi : 36 ≤ i) (hi2 : i < 44 ∨ 50 ≤ i) : ∀ n, n ≤ cM K → tk3 S E n i = E i := by
  have h6 := hW.2.2.1
  intro n
  induction n with
  | zero => intro _; rfl
  | succ n ih =>
    intro hn
    show dTake (tk3 S E n) n (S n) i = E i
    rw [dTake_keep ((hw.tk3 (S := S) hW n (by omega)).at6 hW (by omega)) (by omega) (by omega) hi2]
    exact ih (by omega)
theorem pass_keep {K : CO} {f : DV → Int32} {D : DV} (hW : WK K) (h : WD K D) {i : Nat} (hi : 36 ≤ i) (hi2 : i < 44) : passD K f D i = D i := by
  unfold passD
  rw [upd_n (by omega), tk3_keep36 hW (h.hs2 (S := seaD K f D) hW (cM K) (Nat.le_refl _)) hi (by omega) (cM K) (Nat.le_refl _), hs2_keep36 hW hi (cM K) (Nat.le_refl _)]
theorem pass_50 {K : CO} {f : DV → Int32} {D : DV} (hW : WK K) (h : WD K D) : passD K f D 50 = D 50 + 1 := by
  unfold passD
  rw [upd_s, tk3_keep36 hW (h.hs2 (S := seaD K f D) hW (cM K) (Nat.le_refl _)) (by omega) (by omega) (cM K) (Nat.le_refl _), hs2_keep36 hW (by omega) (cM K) (Nat.le_refl _)]
theorem goF_ok {K : CO} {f : DV → Int32} {D D' : DV} {k a b : Nat} (hW : WK K) (hf : fR f) (hk : k ≤ 6) (hD : DI K D) (hL : LX D) (ho : OpOk K k a b) (e : goF K f D k a b = some D') : DI K D' ∧ LX D' := by
  have h6 := hW.2.2.1
  have h8 := hW.1
  obtain ⟨o0, o1, o2, o3, o4, o5⟩ := ho
  rcases (show k = 0 ∨ k = 1 ∨ k = 2 ∨ k = 3 ∨ k = 4 ∨ k = 5 ∨ k = 6 by omega) with rfl | rfl | rfl | rfl | rfl | rfl | rfl
  · have ⟨q1, q2⟩ := o0 rfl
    replace e : (if D (30 + a) = 1 ∧ wearF D (nI b) 6 0 = -1 then some (upd D a (nI b)) else none) = some D' := e
    split at e
    · rename_i c
      cases e
      exact ⟨DI_wear h6 hD (by omega) c.1 q2, hL.eq (fun q hq => upd_n (by omega)) (upd_n (by omega))⟩
    · cases e
  · have q1 := o1 rfl
    replace e : (if D a = -1 then none else some (upd D a (-1))) = some D' := e
    split at e
    · cases e
    · cases e
      exact ⟨DI_doff h6 hD (by omega), hL.eq (fun q hq => upd_n (by omega)) (upd_n (by omega))⟩
  · have ⟨q1, q2⟩ := o2 rfl
    replace e : (if D (30 + a) = 1 ∧ ¬ D (6 + a) = nI b ∧ ¬ D a = -1 then some (upd (upd D (6 + a) (nI b)) (12 + a) 0) else none) = some D' := e
    split at e
    · rename_i c
      cases e
      exact ⟨DI_sail h6 hD (by omega) c.1 q2, hL.eq (fun q hq => by rw [upd_n (by omega), upd_n (by omega)]) (by rw [upd_n (by omega), upd_n (by omega)])⟩
    · cases e
  · have q1 := o3 rfl
    replace e : (if D (6 + a) = -1 then none else some (dHome D a)) = some D' := e
    split at e
    · cases e
    · cases e
      exact ⟨DI_home h6 hD (by omega), hL.eq (fun q hq => dHome_keep (by omega) (by omega)) (dHome_keep (by omega) (by omega))⟩
  · have q1 := o4 rfl
    replace e : (if D (36 + a) < 9 then some (upd D (36 + a) (D (36 + a) + 1)) else none) = some D' := e
    split at e
    · rename_i c
      cases e
      refine ⟨DI_oil h6 hD (by omega), fun q hq => ?_, by rw [upd_n (by omega)]; exact hL.2⟩
      by_cases qa : q = a
      · subst qa
        rw [upd_s]
        obtain ⟨x, x1, x2⟩ := hL.1 q hq
        rw [x2] at c ⊢
        have := (nI_ltI (b := 9) (by omega) (by decide)).mp c
        exact ⟨x + 1, by omega, nI_1 x⟩
      · rw [upd_n (by omega)]; exact hL.1 q hq
    · cases e
  · have q1 := o5 rfl
    have hk6 : ∀ j, cHr K a = some j → j < 6 := fun j e => by have := hW.2.2.2.1 a j e; omega
    replace e : (if D (30 + a) = 1 then some (dDie D a (cHr K a)) else none) = some D' := e
    split at e
    · cases e
      exact ⟨DI_die hW hD q1, hL.eq (fun q hq => dDie_keep (by omega) hk6 (by omega) (by omega) (by omega) (by omega)) (dDie_keep (by omega) hk6 (by omega) (by omega) (by omega) (by omega))⟩
    · cases e
  · replace e : (if D 50 < 900 then some (passD K f D) else none) = some D' := e
    split at e
    · rename_i c
      cases e
      refine ⟨DI_pass hW hf hD, fun q hq => by rw [pass_keep hW hD.1 (by omega) (by omega)]; exact hL.1 q hq, ?_⟩
      obtain ⟨x, x1, x2⟩ := hL.2
      rw [pass_50 hW hD.1, x2]
      rw [x2] at c
      have c9 : nI x < nI 900 := c
      have := (nI_ltI (a := x) (b := 900) (by omega) (by omega)).mp c9
      exact ⟨x + 1, by omega, nI_1 x⟩
    · cases e
/-- days, STEPS begun, done, refused -/
abbrev ES : Type := DV × Nat × Nat × Nat
def rpS (sub : ES → ES) : Nat → ES → ES
  | 0, e => e
  | c + 1, e => if e.2.1 < 200 then rpS sub c (sub e) else e
def exS (K : CO) (f : DV → Int32) (S : SR) (sub : Nat → Nat → ES → ES) : Nat → Nat → Nat → ES → ES
  | 0, _, _, e => e
  | g + 1, i, j, e => if i < j ∧ e.2.1 < 200 then (if (S i).1 = 7 then exS K f S sub g (S i).2.2.2 j (rpS (sub (i + 1) (S i).2.2.2) (S i).2.1 (e.1, e.2.1 + 1, e.2.2.1, e.2.2.2)) else match goF K f e.1 (S i).1 (S i).2.1 (S i).2.2.1 with
    | some D' => exS K f S sub g (S i).2.2.2 j (D', e.2.1 + 1, e.2.2.1 + 1, e.2.2.2)
    | none => exS K f S sub g (S i).2.2.2 j (e.1, e.2.1 + 1, e.2.2.1, e.2.2.2 + 1)) else e
def exL (K : CO) (f : DV → Int32) (S : SR) : Nat → Nat → Nat → ES → ES
  | 0 => exS K f S (fun _ _ e => e) 201
  | lev + 1 => exS K f S (exL K f S lev) 201
/-- what an execution keeps -/
def EI (K : CO) (e : ES) : Prop := DI K e.1 ∧ LX e.1 ∧ e.2.1 ≤ 200 ∧ e.2.2.1 + e.2.2.2 ≤ e.2.1
def EO (K : CO) (e e' : ES) : Prop := EI K e' ∧ e.2.1 ≤ e'.2.1
theorem rpS_ok {K : CO} {sub : ES → ES} (hs : ∀ e, EI K e → EO K e (sub e)) : ∀ c e, EI K e → EO K e (rpS sub c e) := by
  intro c
  induction c with
  | zero => intro e h; exact ⟨h, Nat.le_refl _⟩
  | succ c ih =>
    intro e h
    rw [rpS]
    split
    · have a := hs e h
      have b := ih _ a.1
      exact ⟨b.1, Nat.le_trans a.2 b.2⟩
    · exact ⟨h, Nat.le_refl _⟩
theorem exS_ok {K : CO} {f : DV → Int32} {S : SR} {lev : Nat} {sub : Nat → Nat → ES → ES} (hW : WK K) (hf : fR f) (hs : ∀ i j e, AgC K S lev i j → EI K e → EO K e (sub i j e)) : ∀ g i j e, Ch K S lev i j → EI K e → EO K e (exS K f S sub g i j e) := by
  intro g
  induction g with
  | zero => intro i j e _ h; exact ⟨h, Nat.le_refl _⟩
  | succ g ih =>
    intro i j e hc h
    obtain ⟨D, bg, dn, rf'⟩ := e
    obtain ⟨h1, h2, h3, h4⟩ := h
    dsimp only at h1 h2 h3 h4
    rw [exS]
    dsimp only
    split
    · rename_i c
      obtain ⟨s1, s2, s3⟩ := hc.go c.1
      split
      · rename_i c7
        have ha : AgC K S lev (i + 1) (S i).2.2.2 := by
          rcases s1.2 with q | q
          · exact q.2.2
          · have := q.1; omega
        have a := rpS_ok (sub := sub (i + 1) (S i).2.2.2) (fun e he => hs (i + 1) (S i).2.2.2 e ha he) (S i).2.1 (D, bg + 1, dn, rf') ⟨h1, h2, by show bg + 1 ≤ 200; omega, by show dn + rf' ≤ bg + 1; omega⟩
        have b := ih _ _ _ s3 a.1
        exact ⟨b.1, by have q := a.2; have q2 := b.2; dsimp only at q ⊢; omega⟩
      · rename_i c7
        have hk : (S i).1 ≤ 6 ∧ OpOk K (S i).1 (S i).2.1 (S i).2.2.1 := by
          rcases s1.2 with q | q
          · exact absurd q.1 c7
          · exact ⟨q.1, q.2.2⟩
        split
        · rename_i D' eg
          obtain ⟨x1, x2⟩ := goF_ok hW hf hk.1 h1 h2 hk.2 eg
          have b := ih _ _ (D', bg + 1, dn + 1, rf') s3 ⟨x1, x2, by show bg + 1 ≤ 200; omega, by show dn + 1 + rf' ≤ bg + 1; omega⟩
          exact ⟨b.1, by have q := b.2; dsimp only at q ⊢; omega⟩
        · have b := ih _ _ (D, bg + 1, dn, rf' + 1) s3 ⟨h1, h2, by show bg + 1 ≤ 200; omega, by show dn + (rf' + 1) ≤ bg + 1; omega⟩
          exact ⟨b.1, by have q := b.2; dsimp only at q ⊢; omega⟩
    · exact ⟨⟨h1, h2, h3, h4⟩, Nat.le_refl _⟩
theorem exL_ok {K : CO} {f : DV → Int32} {S : SR} (hW : WK K) (hf : fR f) : ∀ lev i j e, Ch K S lev i j → EI K e → EO K e (exL K f S lev i j e) := by
  intro lev
  induction lev with
  | zero => intro i j e hc h; exact exS_ok (lev := 0) hW hf (fun i j e a => False.elim a) 201 i j e hc h
  | succ lev ih => intro i j e hc h; exact exS_ok (lev := lev + 1) hW hf (fun i j e a he => ih i j e a he) 201 i j e hc h
/-! the class -/
def FrE (I I' : FI) (l : Nat) : Prop := ∀ a, a ≠ 16 → a ≠ 17 → a ≠ l + 4 → a ≠ 34 → (a < 18 ∨ 25 < a) → I' a = I a
theorem FrE.rf {I : FI} {l : Nat} : FrE I I l := fun _ _ _ _ _ _ => rfl
theorem FrE.tr {I I1 I2 : FI} {l : Nat} (h : FrE I I1 l) (h2 : FrE I1 I2 l) : FrE I I2 l := fun a q1 q2 q3 q4 q5 => (h2 a q1 q2 q3 q4 q5).trans (h a q1 q2 q3 q4 q5)
theorem FrE.C {I I' : FI} {l : Nat} (h : FrC I I' 18) : FrE I I' l := fun a _ _ _ _ q5 => h a (by omega)
theorem FrE.P {I I' : FI} {l : Nat} (h : FrP I I' 18 l) : FrE I I' l := fun a q1 q2 q3 _ q5 => h a q1 q2 q3 (by omega)
theorem FrE.u {I I' : FI} {l j : Nat} {v : Int32} (h : FrE I I' l) : FrE I (up2 I' 34 j v) l := fun a q1 q2 q3 q4 q5 => by rw [up2_n _ _ _ q4]; exact h a q1 q2 q3 q4 q5
/-- what the class's execution works with -/
def CE (I : FI) (R : FR) (c l : Nat) (K : CO) (f : DV → Int32) (N : Nat) (S : SR) (D : DV) : Prop := RK R ∧ R 3 0 = some c ∧ R 3 1 = some l ∧ R 3 2 = some 16 ∧ R 3 3 = some 17 ∧ (c = 4 ∨ c = 51) ∧ (l = 11 ∨ l = 58) ∧ CoastC I c K ∧ WK K ∧ LawC I l f ∧ N ≤ 31 ∧ StR I 0 N S ∧ DayC I 18 D
theorem CE.fr {I I' : FI} {R : FR} {c l : Nat} {K : CO} {f : DV → Int32} {N : Nat} {S : SR} {D D' : DV} (h : CE I R c l K f N S D) (hf : FrE I I' l) (hD : DayC I' 18 D') : CE I' R c l K f N S D' := by
  obtain ⟨h1, h2, h3, h4, h5, hc, hl, h8, h9, h10, h11, h12, h13⟩ := h
  refine ⟨h1, h2, h3, h4, h5, hc, hl, h8.fr (fun a q1 q2 => hf a (by omega) (by omega) (by omega) (by omega) (by omega)), h9, h10.fr (fun a q1 q2 => hf a (by omega) (by omega) (by omega) (by omega) (by omega)), h11, fun i q1 q2 => (h12 i q1 q2).cg ?_, hD⟩
  exact ⟨by rw [hf 35 (by decide) (by decide) (by omega) (by decide) (by decide)], by rw [hf 36 (by decide) (by decide) (by omega) (by decide) (by decide)], by rw [hf 37 (by decide) (by decide) (by omega) (by decide) (by decide)], by rw [hf 38 (by decide) (by decide) (by omega) (by decide) (by decide)]⟩
set_option maxHeartbeats 8000000 in
theorem c_X9_doStep {G : Gx} {d : Nat} {I : FI} {R : FR} {J : FJ} {Q : Po} {c l : Nat} {K : CO} {f : DV → Int32} {N : Nat} {S : SR} {D : DV} (hX : CE I R c l K f N S D) (hDI : DI K D) {i : Nat} (hi : i < N) (hk6 : (S i).1 ≤ 6) (ho : OpOk K (S i).1 (S i).2.1 (S i).2.2.1) (h1 : ∀ D' I', goF K f D (S i).1 (S i).2.1 (S i).2.2.1 = some D' → DayC I' 18 D' → I' 34 = I 34 → FrE I I' l → Q (.inl (some (.int 1))) 103 I' R J) (h0 : goF K f D (S i).1 (S i).2.1 (S i).2.2.1 = none → Q (.inl (some (.int 0))) 103 I R J) : Cc G mX9_doStep (d + 11) 0 0 [rf G 34, rf G 18, rf G 3, .int (nI i)] 103 I R J Q := by
  have hX' := hX
  obtain ⟨hRK, hR3c, hR3l, hR32, hR33, hc, hl, hC, hW, hL, hN, hSt, hD⟩ := hX'
  have h8 := hW.1
  have hg6 := hW.2.1
  have h6 := hW.2.2.1
  have hFl := hDI.1.1
  obtain ⟨m1, m2, m3, m4⟩ := hSt i (Nat.zero_le _) hi
  rcases hs : S i with ⟨k, a, b, e⟩
  rw [hs] at m1 m2 m3 m4 hk6 ho h1 h0
  dsimp only at m1 m2 m3 m4 hk6 ho h1 h0
  obtain ⟨o0, o1, o2, o3, o4, o5⟩ := ho
  rcases (show k = 0 ∨ k = 1 ∨ k = 2 ∨ k = 3 ∨ k = 4 ∨ k = 5 ∨ k = 6 by omega) with rfl | rfl | rfl | rfl | rfl | rfl | rfl
  · show V _ _ _ _ _ _ _ _ [(0, rf G 34), (1, rf G 18), (2, rf G 3), (3, .int (nI i))] [] _ _ _ _ _
    obtain ⟨q1, q2⟩ := o0 rfl
    refine V_aload_n 1 0 rfl _ rfl rfl dX9_doStep_0 rfl ?_
    refine V_getR 4 34 9 0 35 (hRK 34 0 (by decide) (by decide) (by decide)) flX9_11 rfl rfl rfl (by decide) dX9_doStep_1 rfl ?_
    refine V_iload_n 5 3 rfl rfl dX9_doStep_4 rfl ?_
    refine V_ialdN 6 35 31 i 0 m1 (by omega) (by decide) rfl (by decide) dX9_doStep_5 rfl ?_
    refine V_tabIn (off := 38) 44 (by decide) (by decide) (by decide) rfl dX9_doStep_6 ?_
    refine V_aload_n 45 1 rfl _ rfl rfl dX9_doStep_44 rfl ?_
    refine V_aload_n 46 0 rfl _ rfl rfl dX9_doStep_45 rfl ?_
    refine V_getR 49 34 9 1 36 (hRK 34 1 (by decide) (by decide) (by decide)) flX9_15 rfl rfl rfl (by decide) dX9_doStep_46 rfl ?_
    refine V_iload_n 50 3 rfl rfl dX9_doStep_49 rfl ?_
    refine V_ialdN 51 36 31 i (nI a) (m2 (by decide)) (by omega) (by decide) rfl (by decide) dX9_doStep_50 rfl ?_
    refine V_aload_n 52 0 rfl _ rfl rfl dX9_doStep_51 rfl ?_
    refine V_getR 55 34 9 2 37 (hRK 34 2 (by decide) (by decide) (by decide)) flX9_18 rfl rfl rfl (by decide) dX9_doStep_52 rfl ?_
    refine V_iload_n 56 3 rfl rfl dX9_doStep_55 rfl ?_
    refine V_ialdN 57 37 31 i (nI b) (m3 (by decide)) (by omega) (by decide) rfl (by decide) dX9_doStep_56 rfl ?_
    refine V_callV (K' := 0) (S' := 0) 60 18 3 2 [.int (nI a), .int (nI b)] mkX3_wear lkX9_118 (by decide) rfl rfl (by decide) rfl (Nat.le_of_ble_eq_true rfl) (Nat.le_of_ble_eq_true rfl) (Nat.le_of_ble_eq_true rfl) (Nat.le_of_ble_eq_true rfl) rfl rfl dX9_doStep_57 rfl (c_X3_wear_18 hRK hD hFl (by omega) (fun e1 => ?_) (fun e1 e2 I1 hD1 hF1 => ?_))
    · refine Kq_i (k' := 0) (sl' := 0) rfl rfl ?_
      refine V_ret_i rfl (by first | rfl | decide) (Nat.le_of_ble_eq_true rfl) (fun h => absurd h (by decide)) (Nat.le_of_ble_eq_true rfl) (h0 (if_neg e1)) dX9_doStep_60
    · refine Kq_i (k' := 0) (sl' := 0) rfl rfl ?_
      refine V_ret_i rfl (by first | rfl | decide) (Nat.le_of_ble_eq_true rfl) (fun h => absurd h (by decide)) (Nat.le_of_ble_eq_true rfl) (h1 _ I1 (if_pos ⟨e1, e2⟩) hD1 (hF1 34 (by decide)) (FrE.C hF1)) dX9_doStep_60
  · show V _ _ _ _ _ _ _ _ [(0, rf G 34), (1, rf G 18), (2, rf G 3), (3, .int (nI i))] [] _ _ _ _ _
    have q1 := o1 rfl
    refine V_aload_n 1 0 rfl _ rfl rfl dX9_doStep_0 rfl ?_
    refine V_getR 4 34 9 0 35 (hRK 34 0 (by decide) (by decide) (by decide)) flX9_11 rfl rfl rfl (by decide) dX9_doStep_1 rfl ?_
    refine V_iload_n 5 3 rfl rfl dX9_doStep_4 rfl ?_
    refine V_ialdN 6 35 31 i 1 m1 (by omega) (by decide) rfl (by decide) dX9_doStep_5 rfl ?_
    refine V_tabIn (off := 55) 61 (by decide) (by decide) (by decide) rfl dX9_doStep_6 ?_
    refine V_aload_n 62 1 rfl _ rfl rfl dX9_doStep_61 rfl ?_
    refine V_aload_n 63 0 rfl _ rfl rfl dX9_doStep_62 rfl ?_
    refine V_getR 66 34 9 1 36 (hRK 34 1 (by decide) (by decide) (by decide)) flX9_15 rfl rfl rfl (by decide) dX9_doStep_63 rfl ?_
    refine V_iload_n 67 3 rfl rfl dX9_doStep_66 rfl ?_
    refine V_ialdN 68 36 31 i (nI a) (m2 (by decide)) (by omega) (by decide) rfl (by decide) dX9_doStep_67 rfl ?_
    refine V_callV (K' := 0) (S' := 0) 71 18 3 1 [.int (nI a)] mkX3_doff lkX9_123 (by decide) rfl rfl (by decide) rfl (Nat.le_of_ble_eq_true rfl) (Nat.le_of_ble_eq_true rfl) (Nat.le_of_ble_eq_true rfl) (Nat.le_of_ble_eq_true rfl) rfl rfl dX9_doStep_68 rfl (c_X3_doff_18 hRK hD (by omega) (fun e1 => ?_) (fun e1 I1 hD1 hF1 => ?_))
    · refine Kq_i (k' := 0) (sl' := 0) rfl rfl ?_
      refine V_ret_i rfl (by first | rfl | decide) (Nat.le_of_ble_eq_true rfl) (fun h => absurd h (by decide)) (Nat.le_of_ble_eq_true rfl) (h0 (if_pos e1)) dX9_doStep_71
    · refine Kq_i (k' := 0) (sl' := 0) rfl rfl ?_
      refine V_ret_i rfl (by first | rfl | decide) (Nat.le_of_ble_eq_true rfl) (fun h => absurd h (by decide)) (Nat.le_of_ble_eq_true rfl) (h1 _ I1 (if_neg e1) hD1 (hF1 34 (by decide)) (FrE.C hF1)) dX9_doStep_71
  · show V _ _ _ _ _ _ _ _ [(0, rf G 34), (1, rf G 18), (2, rf G 3), (3, .int (nI i))] [] _ _ _ _ _
    obtain ⟨q1, q2⟩ := o2 rfl
    refine V_aload_n 1 0 rfl _ rfl rfl dX9_doStep_0 rfl ?_
    refine V_getR 4 34 9 0 35 (hRK 34 0 (by decide) (by decide) (by decide)) flX9_11 rfl rfl rfl (by decide) dX9_doStep_1 rfl ?_
    refine V_iload_n 5 3 rfl rfl dX9_doStep_4 rfl ?_
    refine V_ialdN 6 35 31 i 2 m1 (by omega) (by decide) rfl (by decide) dX9_doStep_5 rfl ?_
    refine V_tabIn (off := 66) 72 (by decide) (by decide) (by decide) rfl dX9_doStep_6 ?_
    refine V_aload_n 73 1 rfl _ rfl rfl dX9_doStep_72 rfl ?_
    refine V_aload_n 74 0 rfl _ rfl rfl dX9_doStep_73 rfl ?_
    refine V_getR 77 34 9 1 36 (hRK 34 1 (by decide) (by decide) (by decide)) flX9_15 rfl rfl rfl (by decide) dX9_doStep_74 rfl ?_
    refine V_iload_n 78 3 rfl rfl dX9_doStep_77 rfl ?_
    refine V_ialdN 79 36 31 i (nI a) (m2 (by decide)) (by omega) (by decide) rfl (by decide) dX9_doStep_78 rfl ?_
    refine V_aload_n 80 0 rfl _ rfl rfl dX9_doStep_79 rfl ?_
    refine V_getR 83 34 9 2 37 (hRK 34 2 (by decide) (by decide) (by decide)) flX9_18 rfl rfl rfl (by decide) dX9_doStep_80 rfl ?_
    refine V_iload_n 84 3 rfl rfl dX9_doStep_83 rfl ?_
    refine V_ialdN 85 37 31 i (nI b) (m3 (by decide)) (by omega) (by decide) rfl (by decide) dX9_doStep_84 rfl ?_
    refine V_callV (K' := 0) (S' := 0) 88 18 3 2 [.int (nI a), .int (nI b)] mkX3_sail lkX9_126 (by decide) rfl rfl (by decide) rfl (Nat.le_of_ble_eq_true rfl) (Nat.le_of_ble_eq_true rfl) (Nat.le_of_ble_eq_true rfl) (Nat.le_of_ble_eq_true rfl) rfl rfl dX9_doStep_85 rfl (c_X3_sail_18 hRK hD hFl (by omega) (fun e1 => ?_) (fun e1 e2 e3 I1 hD1 hF1 => ?_))
    · refine Kq_i (k' := 0) (sl' := 0) rfl rfl ?_
      refine V_ret_i rfl (by first | rfl | decide) (Nat.le_of_ble_eq_true rfl) (fun h => absurd h (by decide)) (Nat.le_of_ble_eq_true rfl) (h0 (if_neg e1)) dX9_doStep_88
    · refine Kq_i (k' := 0) (sl' := 0) rfl rfl ?_
      refine V_ret_i rfl (by first | rfl | decide) (Nat.le_of_ble_eq_true rfl) (fun h => absurd h (by decide)) (Nat.le_of_ble_eq_true rfl) (h1 _ I1 (if_pos ⟨e1, e2, e3⟩) hD1 (hF1 34 (by decide)) (FrE.C hF1)) dX9_doStep_88
  · show V _ _ _ _ _ _ _ _ [(0, rf G 34), (1, rf G 18), (2, rf G 3), (3, .int (nI i))] [] _ _ _ _ _
    have q1 := o3 rfl
    refine V_aload_n 1 0 rfl _ rfl rfl dX9_doStep_0 rfl ?_
    refine V_getR 4 34 9 0 35 (hRK 34 0 (by decide) (by decide) (by decide)) flX9_11 rfl rfl rfl (by decide) dX9_doStep_1 rfl ?_
    refine V_iload_n 5 3 rfl rfl dX9_doStep_4 rfl ?_
    refine V_ialdN 6 35 31 i 3 m1 (by omega) (by decide) rfl (by decide) dX9_doStep_5 rfl ?_
    refine V_tabIn (off := 83) 89 (by decide) (by decide) (by decide) rfl dX9_doStep_6 ?_
    refine V_aload_n 90 1 rfl _ rfl rfl dX9_doStep_89 rfl ?_
    refine V_aload_n 91 0 rfl _ rfl rfl dX9_doStep_90 rfl ?_
    refine V_getR 94 34 9 1 36 (hRK 34 1 (by decide) (by decide) (by decide)) flX9_15 rfl rfl rfl (by decide) dX9_doStep_91 rfl ?_
    refine V_iload_n 95 3 rfl rfl dX9_doStep_94 rfl ?_
    refine V_ialdN 96 36 31 i (nI a) (m2 (by decide)) (by omega) (by decide) rfl (by decide) dX9_doStep_95 rfl ?_
    refine V_callV (K' := 0) (S' := 0) 99 18 3 1 [.int (nI a)] mkX3_goHome lkX9_128 (by decide) rfl rfl (by decide) rfl (Nat.le_of_ble_eq_true rfl) (Nat.le_of_ble_eq_true rfl) (Nat.le_of_ble_eq_true rfl) (Nat.le_of_ble_eq_true rfl) rfl rfl dX9_doStep_96 rfl (c_X3_goHome_18 hRK hD (by omega) (fun e1 => ?_) (fun e1 I1 hD1 hF1 => ?_))
    · refine Kq_i (k' := 0) (sl' := 0) rfl rfl ?_
      refine V_ret_i rfl (by first | rfl | decide) (Nat.le_of_ble_eq_true rfl) (fun h => absurd h (by decide)) (Nat.le_of_ble_eq_true rfl) (h0 (if_pos e1)) dX9_doStep_99
    · refine Kq_i (k' := 0) (sl' := 0) rfl rfl ?_
      refine V_ret_i rfl (by first | rfl | decide) (Nat.le_of_ble_eq_true rfl) (fun h => absurd h (by decide)) (Nat.le_of_ble_eq_true rfl) (h1 _ I1 (if_neg e1) hD1 (hF1 34 (by decide)) (FrE.C hF1)) dX9_doStep_99
  · show V _ _ _ _ _ _ _ _ [(0, rf G 34), (1, rf G 18), (2, rf G 3), (3, .int (nI i))] [] _ _ _ _ _
    have q1 := o4 rfl
    refine V_aload_n 1 0 rfl _ rfl rfl dX9_doStep_0 rfl ?_
    refine V_getR 4 34 9 0 35 (hRK 34 0 (by decide) (by decide) (by decide)) flX9_11 rfl rfl rfl (by decide) dX9_doStep_1 rfl ?_
    refine V_iload_n 5 3 rfl rfl dX9_doStep_4 rfl ?_
    refine V_ialdN 6 35 31 i 4 m1 (by omega) (by decide) rfl (by decide) dX9_doStep_5 rfl ?_
    refine V_tabIn (off := 94) 100 (by decide) (by decide) (by decide) rfl dX9_doStep_6 ?_
    refine V_aload_n 101 1 rfl _ rfl rfl dX9_doStep_100 rfl ?_
    refine V_aload_n 102 0 rfl _ rfl rfl dX9_doStep_101 rfl ?_
    refine V_getR 105 34 9 1 36 (hRK 34 1 (by decide) (by decide) (by decide)) flX9_15 rfl rfl rfl (by decide) dX9_doStep_102 rfl ?_
    refine V_iload_n 106 3 rfl rfl dX9_doStep_105 rfl ?_
    refine V_ialdN 107 36 31 i (nI a) (m2 (by decide)) (by omega) (by decide) rfl (by decide) dX9_doStep_106 rfl ?_
    refine V_callV (K' := 0) (S' := 0) 110 18 3 1 [.int (nI a)] mkX3_oil lkX9_131 (by decide) rfl rfl (by decide) rfl (Nat.le_of_ble_eq_true rfl) (Nat.le_of_ble_eq_true rfl) (Nat.le_of_ble_eq_true rfl) (Nat.le_of_ble_eq_true rfl) rfl rfl dX9_doStep_107 rfl (c_X3_oil_18 hRK hD (by omega) (fun e1 => ?_) (fun e1 I1 hD1 hF1 => ?_))
    · refine Kq_i (k' := 0) (sl' := 0) rfl rfl ?_
      refine V_ret_i rfl (by first | rfl | decide) (Nat.le_of_ble_eq_true rfl) (fun h => absurd h (by decide)) (Nat.le_of_ble_eq_true rfl) (h0 (if_neg e1)) dX9_doStep_110
    · refine Kq_i (k' := 0) (sl' := 0) rfl rfl ?_
      refine V_ret_i rfl (by first | rfl | decide) (Nat.le_of_ble_eq_true rfl) (fun h => absurd h (by decide)) (Nat.le_of_ble_eq_true rfl) (h1 _ I1 (if_pos e1) hD1 (hF1 34 (by decide)) (FrE.C hF1)) dX9_doStep_110
  · show V _ _ _ _ _ _ _ _ [(0, rf G 34), (1, rf G 18), (2, rf G 3), (3, .int (nI i))] [] _ _ _ _ _
    have q1 := o5 rfl
    refine V_aload_n 1 0 rfl _ rfl rfl dX9_doStep_0 rfl ?_
    refine V_getR 4 34 9 0 35 (hRK 34 0 (by decide) (by decide) (by decide)) flX9_11 rfl rfl rfl (by decide) dX9_doStep_1 rfl ?_
    refine V_iload_n 5 3 rfl rfl dX9_doStep_4 rfl ?_
    refine V_ialdN 6 35 31 i 5 m1 (by omega) (by decide) rfl (by decide) dX9_doStep_5 rfl ?_
    refine V_tabIn (off := 105) 111 (by decide) (by decide) (by decide) rfl dX9_doStep_6 ?_
    refine V_aload_n 112 1 rfl _ rfl rfl dX9_doStep_111 rfl ?_
    refine V_aload_n 113 0 rfl _ rfl rfl dX9_doStep_112 rfl ?_
    refine V_getR 116 34 9 1 36 (hRK 34 1 (by decide) (by decide) (by decide)) flX9_15 rfl rfl rfl (by decide) dX9_doStep_113 rfl ?_
    refine V_iload_n 117 3 rfl rfl dX9_doStep_116 rfl ?_
    refine V_ialdN 118 36 31 i (nI a) (m2 (by decide)) (by omega) (by decide) rfl (by decide) dX9_doStep_117 rfl ?_
    refine V_aload_n 119 2 rfl _ rfl rfl dX9_doStep_118 rfl ?_
    refine V_getR 122 3 7 0 c hR3c flX9_133 rfl rfl rfl (by decide) dX9_doStep_119 rfl ?_
    refine V_getR 125 c 2 5 (c + 6) (rk_c5 hRK hc) flX9_139 rfl (ly_c hc).1 rfl (by omega) dX9_doStep_122 rfl ?_
    refine V_aload_n 126 0 rfl _ rfl rfl dX9_doStep_125 rfl ?_
    refine V_getR 129 34 9 1 36 (hRK 34 1 (by decide) (by decide) (by decide)) flX9_15 rfl rfl rfl (by decide) dX9_doStep_126 rfl ?_
    refine V_iload_n 130 3 rfl rfl dX9_doStep_129 rfl ?_
    refine V_ialdN 131 36 31 i (nI a) (m2 (by decide)) (by omega) (by decide) rfl (by decide) dX9_doStep_130 rfl ?_
    refine V_ialdN 132 (c + 6) 6 a (oI (cHr K a)) (hC.2.2.2.2.2.2.2.2 a q1) (by omega) (by decide) (ly_c hc).2.2.2.2.2.2 (by omega) dX9_doStep_131 rfl ?_
    refine V_callV (K' := 0) (S' := 0) 135 18 3 2 [.int (nI a), .int (oI (cHr K a))] mkX3_die lkX9_142 (by decide) rfl rfl (by decide) rfl (Nat.le_of_ble_eq_true rfl) (Nat.le_of_ble_eq_true rfl) (Nat.le_of_ble_eq_true rfl) (Nat.le_of_ble_eq_true rfl) rfl rfl dX9_doStep_132 rfl (c_X3_die_18 hRK (fun j e => by have := hW.2.2.2.1 a j e; omega) hD hFl (by omega) (fun e1 => ?_) (fun e1 I1 hD1 hF1 => ?_))
    · refine Kq_i (k' := 0) (sl' := 0) rfl rfl ?_
      refine V_ret_i rfl (by first | rfl | decide) (Nat.le_of_ble_eq_true rfl) (fun h => absurd h (by decide)) (Nat.le_of_ble_eq_true rfl) (h0 (if_neg (by rw [e1]; decide))) dX9_doStep_135
    · refine Kq_i (k' := 0) (sl' := 0) rfl rfl ?_
      refine V_ret_i rfl (by first | rfl | decide) (Nat.le_of_ble_eq_true rfl) (fun h => absurd h (by decide)) (Nat.le_of_ble_eq_true rfl) (h1 _ I1 (if_pos e1) hD1 (hF1 34 (by decide)) (FrE.C hF1)) dX9_doStep_135
  · show V _ _ _ _ _ _ _ _ [(0, rf G 34), (1, rf G 18), (2, rf G 3), (3, .int (nI i))] [] _ _ _ _ _
    refine V_aload_n 1 0 rfl _ rfl rfl dX9_doStep_0 rfl ?_
    refine V_getR 4 34 9 0 35 (hRK 34 0 (by decide) (by decide) (by decide)) flX9_11 rfl rfl rfl (by decide) dX9_doStep_1 rfl ?_
    refine V_iload_n 5 3 rfl rfl dX9_doStep_4 rfl ?_
    refine V_ialdN 6 35 31 i 6 m1 (by omega) (by decide) rfl (by decide) dX9_doStep_5 rfl ?_
    refine V_tabOut 136 (by decide) rfl dX9_doStep_6 ?_
    refine V_aload_n 137 1 rfl _ rfl rfl dX9_doStep_136 rfl ?_
    refine V_getI 140 18 3 7 (D 50) hD.2.2.2.2.2.2.2.1 flX9_144 rfl rfl rfl (by decide) dX9_doStep_137 rfl ?_
    refine V_sipush 143 (900) rfl dX9_doStep_140 rfl ?_
    refine V_icmp_lt 148 146 rfl dX9_doStep_143 rfl (fun c143 => ?_) (fun c143 => ?_)
    · refine V_aload_n 149 2 rfl _ rfl rfl dX9_doStep_148 rfl ?_
      refine V_aload_n 150 1 rfl _ rfl rfl dX9_doStep_149 rfl ?_
      refine V_callV (K' := 0) (S' := 0) 153 3 7 1 [rf G 18] mkX7_passHour lkX9_146 (by decide) rfl rfl (by decide) rfl (Nat.le_of_ble_eq_true rfl) (Nat.le_of_ble_eq_true rfl) (Nat.le_of_ble_eq_true rfl) (Nat.le_of_ble_eq_true rfl) rfl rfl dX9_doStep_150 rfl (c_X7_passHour hRK hR3c hR3l hR32 hR33 hc (Or.inl rfl) hl hC hW hD hDI.1 hL (fun I1 hD1 hF1 => ?_))
      refine Kq_v (k' := 0) (sl' := 0) rfl rfl ?_
      refine V_iconst 154 (1) rfl dX9_doStep_153 rfl ?_
      refine V_ret_i rfl (by first | rfl | decide) (Nat.le_of_ble_eq_true rfl) (fun h => absurd h (by decide)) (Nat.le_of_ble_eq_true rfl) (h1 _ I1 (if_pos c143) hD1 (hF1 34 (by decide) (by decide) (by omega) (by decide)) (FrE.P hF1)) dX9_doStep_154
    · refine V_iconst 147 (0) rfl dX9_doStep_146 rfl ?_
      refine V_ret_i rfl (by first | rfl | decide) (Nat.le_of_ble_eq_true rfl) (fun h => absurd h (by decide)) (Nat.le_of_ble_eq_true rfl) (h0 (if_neg c143)) dX9_doStep_147
def DCt (G : Gx) (D0 o : Nat) (K : CO) (f : DV → Int32) (S : SR) (lev : Nat) (ex : Nat → Nat → ES → ES) : Prop := ∀ (d : Nat) (I : FI) (R : FR) (J : FJ) (Q : Po) (c l N i j : Nat) (e : ES), D0 ≤ d → CE I R c l K f N S e.1 → EI K e → AgC K S lev i j → i ≤ j → j ≤ N → I 34 5 = nI e.2.1 → I 34 6 = nI e.2.2.1 → I 34 7 = nI e.2.2.2 →
  (∀ I', DayC I' 18 (ex i j e).1 → I' 34 5 = nI (ex i j e).2.1 → I' 34 6 = nI (ex i j e).2.2.1 → I' 34 7 = nI (ex i j e).2.2.2 → FrE I I' l → Q (.inl none) 103 I' R J) →
  Cc G mX9_doSteps d 0 0 [rf G 34, rf G 18, rf G 3, .int (nI i), .int (nI j), .int (nI o)] 103 I R J Q
theorem up34 {I : FI} {j k : Nat} {v : Int32} (h : k ≠ j) : up2 I 34 j v 34 k = I 34 k := by rw [up2_s, upd_n h]
theorem DayC34 {I : FI} {j : Nat} {v : Int32} {D : DV} (h : DayC I 18 D) : DayC (up2 I 34 j v) 18 D := h.fr (fun a q1 q2 => up2_n _ _ _ (by omega))
set_option maxHeartbeats 16000000 in
theorem c_X9_doSteps0 {G : Gx} {D0 : Nat} {K : CO} {f : DV → Int32} {S : SR}  : DCt G (D0 + 20) (6) K f S (0 + 1) (exL K f S (0)) := by
  intro d I R J Q c l N i j e hd hX hEI hCh hij hjN h5 h6 h7 hq
  obtain ⟨m, rfl⟩ : ∃ m, d = m + 20 := ⟨d - 20, by omega⟩
  have hRK := hX.1
  have hN := hX.2.2.2.2.2.2.2.2.2.2.1
  have hW := hX.2.2.2.2.2.2.2.2.1
  have hL := hX.2.2.2.2.2.2.2.2.2.1
  have eX : exL K f S (0) i j e = exS K f S (fun _ _ e => e) 201 i j e := rfl
  obtain ⟨X, hXX⟩ : ∃ X, X = exL K f S (0) i j e := ⟨_, rfl⟩
  rw [← hXX] at hq eX
  have L : ∀ g i1 e1 I1, 200 - e1.2.1 < g → CE I1 R c l K f N S e1.1 → EI K e1 → Ch K S (0) i1 j → i1 ≤ j → I1 34 5 = nI e1.2.1 → I1 34 6 = nI e1.2.2.1 → I1 34 7 = nI e1.2.2.2 → FrE I I1 l → X = exS K f S (fun _ _ e => e) g i1 j e1 → V G mX9_doSteps (m + 20) 0 0 0 0 3 [(6, .int (nI i1)), (0, rf G 34), (1, rf G 18), (2, rf G 3), (4, .int (nI j)), (5, .int 6)] [] 103 I1 R J Q := by
    intro g
    induction g with
    | zero => intro i1 e1 I1 hg; omega
    | succ g ih =>
      intro i1 e1 I1 hg hX1 hE1 hC1 hi1 h51 h61 h71 hF1 eq
      obtain ⟨D, bg, dn, rr⟩ := e1
      dsimp only at hg hX1 hE1 h51 h61 h71
      obtain ⟨hDI, hLX, hbg, hdr⟩ := hE1
      dsimp only at hDI hLX hbg hdr
      rw [exS] at eq
      dsimp only at eq
      have hD := hX1.2.2.2.2.2.2.2.2.2.2.2.2
      have hSt := hX1.2.2.2.2.2.2.2.2.2.2.2.1
      by_cases cc : i1 < j ∧ bg < 200
      · obtain ⟨s1, s2, s3⟩ := hC1.go cc.1
        obtain ⟨m1, m2, m3, m4⟩ := hSt i1 (Nat.zero_le _) (by omega)
        rw [if_pos cc] at eq
        obtain ⟨I2, eI2⟩ : ∃ I2, I2 = up2 I1 34 5 (nI (bg + 1)) := ⟨_, rfl⟩
        have hD2 : DayC I2 18 D := by rw [eI2]; exact DayC34 hD
        have hF2 : FrE I1 I2 l := by rw [eI2]; exact FrE.rf.u
        have hX2 := hX1.fr hF2 hD2
        have h52 : I2 34 5 = nI (bg + 1) := by rw [eI2, up2_s]; exact upd_s
        have h62 : I2 34 6 = nI dn := by rw [eI2, up34 (by decide)]; exact h61
        have h72 : I2 34 7 = nI rr := by rw [eI2, up34 (by decide)]; exact h71
        obtain ⟨n1, n2, n3, n4⟩ := hX2.2.2.2.2.2.2.2.2.2.2.2.1 i1 (Nat.zero_le _) (by omega)
        by_cases c7 : (S i1).1 = 7
        · rw [if_pos c7] at eq
          have hag : (S i1).2.1 ≤ 30 ∧ AgC K S (0) (i1 + 1) (S i1).2.2.2 := by
            rcases s1.2 with q | q
            · exact ⟨q.2.1, q.2.2⟩
            · have := q.1; omega
          have hlt := s1.1
          exact absurd hag.2 (fun q => q)
        · rw [if_neg c7] at eq
          have hok : (S i1).1 ≤ 6 ∧ OpOk K (S i1).1 (S i1).2.1 (S i1).2.2.1 := by
            rcases s1.2 with q | q
            · exact absurd q.1 c7
            · exact ⟨q.1, q.2.2⟩
          refine V_iload 5 0 rfl dX9_doSteps_3 rfl ?_
          refine V_iload 7 4 rfl dX9_doSteps_5 rfl ?_
          refine V_icmp_ge 150 10 rfl dX9_doSteps_7 rfl (fun cb => absurd cb (nI_ge cc.1 (by omega))) (fun cb => ?_)
          refine V_aload_n 11 1 rfl _ rfl rfl dX9_doSteps_10 rfl ?_
          refine V_getI 14 34 9 5 (nI bg) h51 flX9_101 rfl rfl rfl (by decide) dX9_doSteps_11 rfl ?_
          refine V_sipush 17 (200) rfl dX9_doSteps_14 rfl ?_
          refine V_icmp_ge 150 20 rfl dX9_doSteps_17 rfl (fun c17 => absurd c17 (nI_ge (b := 200) cc.2 (by decide))) (fun c17 => ?_)
          refine V_aload_n 21 1 rfl _ rfl rfl dX9_doSteps_20 rfl ?_
          refine V_dup 22 rfl dX9_doSteps_21 rfl ?_
          refine V_getI 25 34 9 5 (nI bg) h51 flX9_101 rfl rfl rfl (by decide) dX9_doSteps_22 rfl ?_
          refine V_iconst 26 (1) rfl dX9_doSteps_25 rfl ?_
          refine V_iadd 27 dX9_doSteps_26 rfl ?_
          refine V_rw (nI_add bg 1) ?_
          refine V_putI 30 34 9 5 flX9_101 rfl rfl rfl (by decide) rfl dX9_doSteps_27 rfl ?_
          rw [← eI2]
          refine V_aload_n 31 1 rfl _ rfl rfl dX9_doSteps_30 rfl ?_
          refine V_getR 34 34 9 0 35 (hRK 34 0 (by decide) (by decide) (by decide)) flX9_11 rfl rfl rfl (by decide) dX9_doSteps_31 rfl ?_
          refine V_iload 36 0 rfl dX9_doSteps_34 rfl ?_
          refine V_ialdN 37 35 31 i1 (nI (S i1).1) n1 (by omega) (by decide) rfl (by decide) dX9_doSteps_36 rfl ?_
          refine V_bipush 39 (7) rfl dX9_doSteps_37 rfl ?_
          refine V_icmp_ne 104 42 rfl dX9_doSteps_39 rfl (fun c39 => ?_) (fun c39 => absurd ((nI_eq (b := 7) (by omega) (by decide)).mp c39) c7)
          refine V_aload_n 105 1 rfl _ rfl rfl dX9_doSteps_104 rfl ?_
          refine V_aload_n 106 2 rfl _ rfl rfl dX9_doSteps_105 rfl ?_
          refine V_aload_n 107 3 rfl _ rfl rfl dX9_doSteps_106 rfl ?_
          refine V_iload 109 0 rfl dX9_doSteps_107 rfl ?_
          refine V_callV (K' := 0) (S' := 0) 112 34 9 3 [rf G 18, rf G 3, .int (nI i1)] mkX9_doStep lkX9_114 (by decide) rfl rfl (by decide) rfl (Nat.le_of_ble_eq_true rfl) (Nat.le_of_ble_eq_true rfl) (Nat.le_of_ble_eq_true rfl) (Nat.le_of_ble_eq_true rfl) rfl rfl dX9_doSteps_109 rfl (c_X9_doStep hX2 hDI (show i1 < N by omega) hok.1 hok.2 (fun D3 I3 eg hD3 h34 hF3 => ?_) (fun eg => ?_))
          · refine Kq_i (k' := 0) (sl' := 0) rfl rfl ?_
            rw [eg] at eq
            dsimp only at eq
            have hX3 := hX2.fr hF3 hD3
            obtain ⟨x1, x2⟩ := goF_ok hW hL.R hok.1 hDI hLX hok.2 eg
            have h53 : I3 34 5 = nI (bg + 1) := by rw [h34]; exact h52
            have h63 : I3 34 6 = nI dn := by rw [h34]; exact h62
            have h73 : I3 34 7 = nI rr := by rw [h34]; exact h72
            obtain ⟨k1, k2, k3, k4⟩ := hX3.2.2.2.2.2.2.2.2.2.2.2.1 i1 (Nat.zero_le _) (by omega)
            refine V_if_eq 128 115 rfl dX9_doSteps_112 rfl (fun c112 => absurd c112 (by decide)) (fun c112 => ?_)
            refine V_aload_n 116 1 rfl _ rfl rfl dX9_doSteps_115 rfl ?_
            refine V_dup 117 rfl dX9_doSteps_116 rfl ?_
            refine V_getI 120 34 9 6 (nI dn) h63 flX9_104 rfl rfl rfl (by decide) dX9_doSteps_117 rfl ?_
            refine V_iconst 121 (1) rfl dX9_doSteps_120 rfl ?_
            refine V_iadd 122 dX9_doSteps_121 rfl ?_
            refine V_rw (nI_add dn 1) ?_
            refine V_putI 125 34 9 6 flX9_104 rfl rfl rfl (by decide) rfl dX9_doSteps_122 rfl ?_
            refine V_goto 138 rfl dX9_doSteps_125 ?_
            refine V_aload_n 139 1 rfl _ rfl rfl dX9_doSteps_138 rfl ?_
            refine V_getR 142 34 9 3 38 (hRK 34 3 (by decide) (by decide) (by decide)) flX9_21 rfl rfl rfl (by decide) dX9_doSteps_139 rfl ?_
            refine V_iload 144 0 rfl dX9_doSteps_142 rfl ?_
            refine V_ialdN 145 38 31 i1 (nI (S i1).2.2.2) (by rw [up2_n _ _ _ (by decide)]; exact k4) (by omega) (by decide) rfl (by decide) dX9_doSteps_144 rfl ?_
            refine V_istore 147 [(6, .int (nI (S i1).2.2.2)), (0, rf G 34), (1, rf G 18), (2, rf G 3), (4, .int (nI j)), (5, .int 6)] (by decide) rfl dX9_doSteps_145 rfl ?_
            refine V_goto 3 rfl dX9_doSteps_147 ?_
            exact V_lv [0, 1, 2, 3, 4, 5] rfl (ih (S i1).2.2.2 (D3, bg + 1, dn + 1, rr) _ (by show 200 - (bg + 1) < g; omega) (hX3.fr FrE.rf.u (DayC34 hX3.2.2.2.2.2.2.2.2.2.2.2.2)) ⟨x1, x2, by show bg + 1 ≤ 200; omega, by show dn + 1 + rr ≤ bg + 1; omega⟩ s3 s2 (by rw [up34 (by decide)]; exact h53) (by rw [up2_s]; exact upd_s) (by rw [up34 (by decide)]; exact h73) (((hF1.tr hF2).tr hF3).tr FrE.rf.u) eq)
          · refine Kq_i (k' := 0) (sl' := 0) rfl rfl ?_
            rw [eg] at eq
            dsimp only at eq
            refine V_if_eq 128 115 rfl dX9_doSteps_112 rfl (fun c112 => ?_) (fun c112 => absurd c112 (by decide))
            refine V_aload_n 129 1 rfl _ rfl rfl dX9_doSteps_128 rfl ?_
            refine V_dup 130 rfl dX9_doSteps_129 rfl ?_
            refine V_getI 133 34 9 7 (nI rr) h72 flX9_107 rfl rfl rfl (by decide) dX9_doSteps_130 rfl ?_
            refine V_iconst 134 (1) rfl dX9_doSteps_133 rfl ?_
            refine V_iadd 135 dX9_doSteps_134 rfl ?_
            refine V_rw (nI_add rr 1) ?_
            refine V_putI 138 34 9 7 flX9_107 rfl rfl rfl (by decide) rfl dX9_doSteps_135 rfl ?_
            refine V_aload_n 139 1 rfl _ rfl rfl dX9_doSteps_138 rfl ?_
            refine V_getR 142 34 9 3 38 (hRK 34 3 (by decide) (by decide) (by decide)) flX9_21 rfl rfl rfl (by decide) dX9_doSteps_139 rfl ?_
            refine V_iload 144 0 rfl dX9_doSteps_142 rfl ?_
            refine V_ialdN 145 38 31 i1 (nI (S i1).2.2.2) (by rw [up2_n _ _ _ (by decide)]; exact n4) (by omega) (by decide) rfl (by decide) dX9_doSteps_144 rfl ?_
            refine V_istore 147 [(6, .int (nI (S i1).2.2.2)), (0, rf G 34), (1, rf G 18), (2, rf G 3), (4, .int (nI j)), (5, .int 6)] (by decide) rfl dX9_doSteps_145 rfl ?_
            refine V_goto 3 rfl dX9_doSteps_147 ?_
            exact V_lv [0, 1, 2, 3, 4, 5] rfl (ih (S i1).2.2.2 (D, bg + 1, dn, rr + 1) _ (by show 200 - (bg + 1) < g; omega) (hX2.fr FrE.rf.u (DayC34 hD2)) ⟨hDI, hLX, by show bg + 1 ≤ 200; omega, by show dn + (rr + 1) ≤ bg + 1; omega⟩ s3 s2 (by rw [up34 (by decide)]; exact h52) (by rw [up34 (by decide)]; exact h62) (by rw [up2_s]; exact upd_s) ((hF1.tr hF2).tr FrE.rf.u) eq)
      · rw [if_neg cc] at eq
        by_cases cj : i1 < j
        · refine V_iload 5 0 rfl dX9_doSteps_3 rfl ?_
          refine V_iload 7 4 rfl dX9_doSteps_5 rfl ?_
          refine V_icmp_ge 150 10 rfl dX9_doSteps_7 rfl (fun c7 => absurd c7 (nI_ge cj (by omega))) (fun c7 => ?_)
          refine V_aload_n 11 1 rfl _ rfl rfl dX9_doSteps_10 rfl ?_
          refine V_getI 14 34 9 5 (nI bg) h51 flX9_101 rfl rfl rfl (by decide) dX9_doSteps_11 rfl ?_
          refine V_sipush 17 (200) rfl dX9_doSteps_14 rfl ?_
          refine V_icmp_ge 150 20 rfl dX9_doSteps_17 rfl (fun c17 => ?_) (fun c17 => absurd (nI_le (a := 200) (by omega) (by omega)) c17)
          refine V_ret_v rfl (Nat.le_of_ble_eq_true rfl) (fun h => absurd h (by decide)) (Nat.le_of_ble_eq_true rfl) (by rw [eq] at hq; exact hq I1 hD h51 h61 h71 hF1) dX9_doSteps_150
        · refine V_iload 5 0 rfl dX9_doSteps_3 rfl ?_
          refine V_iload 7 4 rfl dX9_doSteps_5 rfl ?_
          refine V_icmp_ge 150 10 rfl dX9_doSteps_7 rfl (fun c7 => ?_) (fun c7 => absurd (nI_le (show j ≤ i1 by omega) (by omega)) c7)
          refine V_ret_v rfl (Nat.le_of_ble_eq_true rfl) (fun h => absurd h (by decide)) (Nat.le_of_ble_eq_true rfl) (by rw [eq] at hq; exact hq I1 hD h51 h61 h71 hF1) dX9_doSteps_150
  show V _ _ _ _ _ _ _ _ [(0, rf G 34), (1, rf G 18), (2, rf G 3), (3, .int (nI i)), (4, .int (nI j)), (5, .int (6))] [] _ _ _ _ _
  refine V_iload_n 1 3 rfl rfl dX9_doSteps_0 rfl ?_
  refine V_istore 3 [(6, .int (nI i)), (0, rf G 34), (1, rf G 18), (2, rf G 3), (3, .int (nI i)), (4, .int (nI j)), (5, .int 6)] (by decide) rfl dX9_doSteps_1 rfl ?_
  exact V_lv [0, 1, 2, 3, 5, 6] rfl (L 201 i e I (by omega) hX hEI hCh hij h5 h6 h7 FrE.rf eX)
set_option maxHeartbeats 16000000 in
theorem c_X9_doStepsS {G : Gx} {D0 : Nat} {K : CO} {f : DV → Int32} {S : SR} {lev : Nat} (hlev : lev < 6) (hU : DCt G D0 (6 - lev) K f S (lev + 1) (exL K f S lev)) : DCt G (D0 + 20) (6 - (lev + 1)) K f S (lev + 1 + 1) (exL K f S (lev + 1)) := by
  intro d I R J Q c l N i j e hd hX hEI hCh hij hjN h5 h6 h7 hq
  obtain ⟨m, rfl⟩ : ∃ m, d = m + 20 := ⟨d - 20, by omega⟩
  have hRK := hX.1
  have hN := hX.2.2.2.2.2.2.2.2.2.2.1
  have hW := hX.2.2.2.2.2.2.2.2.1
  have hL := hX.2.2.2.2.2.2.2.2.2.1
  have eX : exL K f S (lev + 1) i j e = exS K f S (exL K f S lev) 201 i j e := rfl
  obtain ⟨X, hXX⟩ : ∃ X, X = exL K f S (lev + 1) i j e := ⟨_, rfl⟩
  rw [← hXX] at hq eX
  have L : ∀ g i1 e1 I1, 200 - e1.2.1 < g → CE I1 R c l K f N S e1.1 → EI K e1 → Ch K S (lev + 1) i1 j → i1 ≤ j → I1 34 5 = nI e1.2.1 → I1 34 6 = nI e1.2.2.1 → I1 34 7 = nI e1.2.2.2 → FrE I I1 l → X = exS K f S (exL K f S lev) g i1 j e1 → V G mX9_doSteps (m + 20) 0 0 0 0 3 [(6, .int (nI i1)), (0, rf G 34), (1, rf G 18), (2, rf G 3), (4, .int (nI j)), (5, .int (nI (6 - (lev + 1))))] [] 103 I1 R J Q := by
    intro g
    induction g with
    | zero => intro i1 e1 I1 hg; omega
    | succ g ih =>
      intro i1 e1 I1 hg hX1 hE1 hC1 hi1 h51 h61 h71 hF1 eq
      obtain ⟨D, bg, dn, rr⟩ := e1
      dsimp only at hg hX1 hE1 h51 h61 h71
      obtain ⟨hDI, hLX, hbg, hdr⟩ := hE1
      dsimp only at hDI hLX hbg hdr
      rw [exS] at eq
      dsimp only at eq
      have hD := hX1.2.2.2.2.2.2.2.2.2.2.2.2
      have hSt := hX1.2.2.2.2.2.2.2.2.2.2.2.1
      by_cases cc : i1 < j ∧ bg < 200
      · obtain ⟨s1, s2, s3⟩ := hC1.go cc.1
        obtain ⟨m1, m2, m3, m4⟩ := hSt i1 (Nat.zero_le _) (by omega)
        rw [if_pos cc] at eq
        obtain ⟨I2, eI2⟩ : ∃ I2, I2 = up2 I1 34 5 (nI (bg + 1)) := ⟨_, rfl⟩
        have hD2 : DayC I2 18 D := by rw [eI2]; exact DayC34 hD
        have hF2 : FrE I1 I2 l := by rw [eI2]; exact FrE.rf.u
        have hX2 := hX1.fr hF2 hD2
        have h52 : I2 34 5 = nI (bg + 1) := by rw [eI2, up2_s]; exact upd_s
        have h62 : I2 34 6 = nI dn := by rw [eI2, up34 (by decide)]; exact h61
        have h72 : I2 34 7 = nI rr := by rw [eI2, up34 (by decide)]; exact h71
        obtain ⟨n1, n2, n3, n4⟩ := hX2.2.2.2.2.2.2.2.2.2.2.2.1 i1 (Nat.zero_le _) (by omega)
        by_cases c7 : (S i1).1 = 7
        · rw [if_pos c7] at eq
          have hag : (S i1).2.1 ≤ 30 ∧ AgC K S (lev + 1) (i1 + 1) (S i1).2.2.2 := by
            rcases s1.2 with q | q
            · exact ⟨q.2.1, q.2.2⟩
            · have := q.1; omega
          have hlt := s1.1
          have M : ∀ r e4 I4, r ≤ (S i1).2.1 → CE I4 R c l K f N S e4.1 → EI K e4 → bg + 1 ≤ e4.2.1 → I4 34 5 = nI e4.2.1 → I4 34 6 = nI e4.2.2.1 → I4 34 7 = nI e4.2.2.2 → FrE I I4 l → X = exS K f S (exL K f S lev) g (S i1).2.2.2 j (rpS ((exL K f S lev) (i1 + 1) (S i1).2.2.2) ((S i1).2.1 - r) e4) → V G mX9_doSteps (m + 20) 0 0 0 0 45 [(7, .int (nI r)), (6, .int (nI i1)), (0, rf G 34), (1, rf G 18), (2, rf G 3), (4, .int (nI j)), (5, .int (nI (6 - (lev + 1))))] [] 103 I4 R J Q := by
            intro r
            obtain ⟨w, hw⟩ : ∃ w, w = (S i1).2.1 - r := ⟨_, rfl⟩
            induction w generalizing r with
            | zero =>
              intro e4 I4 hr hX4 hE4 hb4 h54 h64 h74 hF4 eq4
              rw [← hw, rpS] at eq4
              obtain ⟨k1, k2, k3, k4⟩ := hX4.2.2.2.2.2.2.2.2.2.2.2.1 i1 (Nat.zero_le _) (by omega)
              refine V_iload 47 0 rfl dX9_doSteps_45 rfl ?_
              refine V_aload_n 48 2 rfl _ rfl rfl dX9_doSteps_47 rfl ?_
              refine V_getR 51 34 9 1 36 (hRK 34 1 (by decide) (by decide) (by decide)) flX9_15 rfl rfl rfl (by decide) dX9_doSteps_48 rfl ?_
              refine V_iload 53 1 rfl dX9_doSteps_51 rfl ?_
              refine V_ialdN 54 36 31 i1 (nI (S i1).2.1) (k2 (by rw [c7]; decide)) (by omega) (by decide) rfl (by decide) dX9_doSteps_53 rfl ?_
              refine V_icmp_ge 101 57 rfl dX9_doSteps_54 rfl (fun c54 => ?_) (fun c54 => absurd (nI_le (show (S i1).2.1 ≤ r by omega) (by omega)) c54)
              refine V_goto 138 rfl dX9_doSteps_101 ?_
              refine V_aload_n 139 2 rfl _ rfl rfl dX9_doSteps_138 rfl ?_
              refine V_getR 142 34 9 3 38 (hRK 34 3 (by decide) (by decide) (by decide)) flX9_21 rfl rfl rfl (by decide) dX9_doSteps_139 rfl ?_
              refine V_iload 144 1 rfl dX9_doSteps_142 rfl ?_
              refine V_ialdN 145 38 31 i1 (nI (S i1).2.2.2) k4 (by omega) (by decide) rfl (by decide) dX9_doSteps_144 rfl ?_
              refine V_istore 147 [(6, .int (nI (S i1).2.2.2)), (7, .int (nI r)), (0, rf G 34), (1, rf G 18), (2, rf G 3), (4, .int (nI j)), (5, .int (nI (6 - (lev + 1))))] (by decide) rfl dX9_doSteps_145 rfl ?_
              refine V_goto 3 rfl dX9_doSteps_147 ?_
              exact V_lv [0, 2, 3, 4, 5, 6] rfl (ih _ e4 I4 (by omega) hX4 hE4 s3 s2 h54 h64 h74 hF4 eq4)
            | succ w ihw =>
              intro e4 I4 hr hX4 hE4 hb4 h54 h64 h74 hF4 eq4
              rw [← hw, rpS] at eq4
              obtain ⟨k1, k2, k3, k4⟩ := hX4.2.2.2.2.2.2.2.2.2.2.2.1 i1 (Nat.zero_le _) (by omega)
              have hb5 := hE4.2.2.1
              by_cases c2 : e4.2.1 < 200
              · refine V_iload 47 0 rfl dX9_doSteps_45 rfl ?_
                refine V_aload_n 48 2 rfl _ rfl rfl dX9_doSteps_47 rfl ?_
                refine V_getR 51 34 9 1 36 (hRK 34 1 (by decide) (by decide) (by decide)) flX9_15 rfl rfl rfl (by decide) dX9_doSteps_48 rfl ?_
                refine V_iload 53 1 rfl dX9_doSteps_51 rfl ?_
                refine V_ialdN 54 36 31 i1 (nI (S i1).2.1) (k2 (by rw [c7]; decide)) (by omega) (by decide) rfl (by decide) dX9_doSteps_53 rfl ?_
                refine V_icmp_ge 101 57 rfl dX9_doSteps_54 rfl (fun c54 => absurd c54 (nI_ge (show r < (S i1).2.1 by omega) (by omega))) (fun c54 => ?_)
                refine V_aload_n 58 2 rfl _ rfl rfl dX9_doSteps_57 rfl ?_
                refine V_getI 61 34 9 5 (nI e4.2.1) h54 flX9_101 rfl rfl rfl (by decide) dX9_doSteps_58 rfl ?_
                refine V_sipush 64 (200) rfl dX9_doSteps_61 rfl ?_
                refine V_icmp_ge 101 67 rfl dX9_doSteps_64 rfl (fun c64 => absurd c64 (nI_ge (b := 200) c2 (by decide))) (fun c64 => ?_)
                refine V_iload 69 6 rfl dX9_doSteps_67 rfl ?_
                refine V_bipush 71 (6) rfl dX9_doSteps_69 rfl ?_
                refine V_icmp_ge 101 74 rfl dX9_doSteps_71 rfl (fun c71 => absurd c71 (nI_ge (b := 6) (show 6 - (lev + 1) < 6 by omega) (by decide))) (fun c71 => ?_)
                refine V_aload_n 75 2 rfl _ rfl rfl dX9_doSteps_74 rfl ?_
                refine V_aload_n 76 3 rfl _ rfl rfl dX9_doSteps_75 rfl ?_
                refine V_aload_n 77 4 rfl _ rfl rfl dX9_doSteps_76 rfl ?_
                refine V_iload 79 1 rfl dX9_doSteps_77 rfl ?_
                refine V_iconst 80 (1) rfl dX9_doSteps_79 rfl ?_
                refine V_iadd 81 dX9_doSteps_80 rfl ?_
                refine V_rw (nI_add i1 1) ?_
                refine V_aload_n 82 2 rfl _ rfl rfl dX9_doSteps_81 rfl ?_
                refine V_getR 85 34 9 3 38 (hRK 34 3 (by decide) (by decide) (by decide)) flX9_21 rfl rfl rfl (by decide) dX9_doSteps_82 rfl ?_
                refine V_iload 87 1 rfl dX9_doSteps_85 rfl ?_
                refine V_ialdN 88 38 31 i1 (nI (S i1).2.2.2) k4 (by omega) (by decide) rfl (by decide) dX9_doSteps_87 rfl ?_
                refine V_iload 90 6 rfl dX9_doSteps_88 rfl ?_
                refine V_iconst 91 (1) rfl dX9_doSteps_90 rfl ?_
                refine V_iadd 92 dX9_doSteps_91 rfl ?_
                refine V_rw (show _ = nI (6 - lev) from by rw [nI_1]; congr 1; omega) ?_
                refine V_callV (K' := 0) (S' := 0) 95 34 9 5 [rf G 18, rf G 3, .int (nI (i1 + 1)), .int (nI (S i1).2.2.2), .int (nI (6 - lev))] mkX9_doSteps lkX9_110 (by decide) rfl rfl (by decide) rfl (Nat.le_of_ble_eq_true rfl) (Nat.le_of_ble_eq_true rfl) (Nat.le_of_ble_eq_true rfl) (Nat.le_of_ble_eq_true rfl) rfl rfl dX9_doSteps_92 rfl (hU _ _ _ _ _ c l N (i1 + 1) (S i1).2.2.2 e4 (by omega) hX4 hE4 hag.2 (by omega) (by omega) h54 h64 h74 (fun I5 hD5 h55 h65 h75 hF5 => ?_))
                refine Kq_v (k' := 0) (sl' := 0) rfl rfl ?_
                have hO5 := exL_ok hW hL.R lev (i1 + 1) (S i1).2.2.2 e4 hag.2 hE4
                have hX5 := hX4.fr hF5 hD5
                refine V_iinc 98 0 rfl (nI (r + 1)) [(7, .int (nI (r + 1))), (6, .int (nI i1)), (0, rf G 34), (1, rf G 18), (2, rf G 3), (4, .int (nI j)), (5, .int (nI (6 - (lev + 1))))] (nI_1 _) (by decide) rfl dX9_doSteps_95 rfl ?_
                refine V_goto 45 rfl dX9_doSteps_98 ?_
                exact V_lv [0, 1, 2, 3, 4, 5, 6] rfl (ihw (r + 1) (by omega) _ I5 (by omega) hX5 hO5.1 (Nat.le_trans hb4 hO5.2) h55 h65 h75 (hF4.tr hF5) (by rw [if_pos c2] at eq4; rw [show (S i1).2.1 - (r + 1) = w by omega]; exact eq4))
              · rw [if_neg c2] at eq4
                refine V_iload 47 0 rfl dX9_doSteps_45 rfl ?_
                refine V_aload_n 48 2 rfl _ rfl rfl dX9_doSteps_47 rfl ?_
                refine V_getR 51 34 9 1 36 (hRK 34 1 (by decide) (by decide) (by decide)) flX9_15 rfl rfl rfl (by decide) dX9_doSteps_48 rfl ?_
                refine V_iload 53 1 rfl dX9_doSteps_51 rfl ?_
                refine V_ialdN 54 36 31 i1 (nI (S i1).2.1) (k2 (by rw [c7]; decide)) (by omega) (by decide) rfl (by decide) dX9_doSteps_53 rfl ?_
                refine V_icmp_ge 101 57 rfl dX9_doSteps_54 rfl (fun c54 => absurd c54 (nI_ge (show r < (S i1).2.1 by omega) (by omega))) (fun c54 => ?_)
                refine V_aload_n 58 2 rfl _ rfl rfl dX9_doSteps_57 rfl ?_
                refine V_getI 61 34 9 5 (nI e4.2.1) h54 flX9_101 rfl rfl rfl (by decide) dX9_doSteps_58 rfl ?_
                refine V_sipush 64 (200) rfl dX9_doSteps_61 rfl ?_
                refine V_icmp_ge 101 67 rfl dX9_doSteps_64 rfl (fun c64 => ?_) (fun c64 => absurd (nI_le (a := 200) (by omega) (by omega)) c64)
                refine V_goto 138 rfl dX9_doSteps_101 ?_
                refine V_aload_n 139 2 rfl _ rfl rfl dX9_doSteps_138 rfl ?_
                refine V_getR 142 34 9 3 38 (hRK 34 3 (by decide) (by decide) (by decide)) flX9_21 rfl rfl rfl (by decide) dX9_doSteps_139 rfl ?_
                refine V_iload 144 1 rfl dX9_doSteps_142 rfl ?_
                refine V_ialdN 145 38 31 i1 (nI (S i1).2.2.2) k4 (by omega) (by decide) rfl (by decide) dX9_doSteps_144 rfl ?_
                refine V_istore 147 [(6, .int (nI (S i1).2.2.2)), (7, .int (nI r)), (0, rf G 34), (1, rf G 18), (2, rf G 3), (4, .int (nI j)), (5, .int (nI (6 - (lev + 1))))] (by decide) rfl dX9_doSteps_145 rfl ?_
                refine V_goto 3 rfl dX9_doSteps_147 ?_
                exact V_lv [0, 2, 3, 4, 5, 6] rfl (ih _ e4 I4 (by omega) hX4 hE4 s3 s2 h54 h64 h74 hF4 eq4)
          refine V_iload 5 0 rfl dX9_doSteps_3 rfl ?_
          refine V_iload 7 4 rfl dX9_doSteps_5 rfl ?_
          refine V_icmp_ge 150 10 rfl dX9_doSteps_7 rfl (fun cb => absurd cb (nI_ge cc.1 (by omega))) (fun cb => ?_)
          refine V_aload_n 11 1 rfl _ rfl rfl dX9_doSteps_10 rfl ?_
          refine V_getI 14 34 9 5 (nI bg) h51 flX9_101 rfl rfl rfl (by decide) dX9_doSteps_11 rfl ?_
          refine V_sipush 17 (200) rfl dX9_doSteps_14 rfl ?_
          refine V_icmp_ge 150 20 rfl dX9_doSteps_17 rfl (fun c17 => absurd c17 (nI_ge (b := 200) cc.2 (by decide))) (fun c17 => ?_)
          refine V_aload_n 21 1 rfl _ rfl rfl dX9_doSteps_20 rfl ?_
          refine V_dup 22 rfl dX9_doSteps_21 rfl ?_
          refine V_getI 25 34 9 5 (nI bg) h51 flX9_101 rfl rfl rfl (by decide) dX9_doSteps_22 rfl ?_
          refine V_iconst 26 (1) rfl dX9_doSteps_25 rfl ?_
          refine V_iadd 27 dX9_doSteps_26 rfl ?_
          refine V_rw (nI_add bg 1) ?_
          refine V_putI 30 34 9 5 flX9_101 rfl rfl rfl (by decide) rfl dX9_doSteps_27 rfl ?_
          rw [← eI2]
          refine V_aload_n 31 1 rfl _ rfl rfl dX9_doSteps_30 rfl ?_
          refine V_getR 34 34 9 0 35 (hRK 34 0 (by decide) (by decide) (by decide)) flX9_11 rfl rfl rfl (by decide) dX9_doSteps_31 rfl ?_
          refine V_iload 36 0 rfl dX9_doSteps_34 rfl ?_
          refine V_ialdN 37 35 31 i1 7 (by rw [n1, c7]; rfl) (by omega) (by decide) rfl (by decide) dX9_doSteps_36 rfl ?_
          refine V_bipush 39 (7) rfl dX9_doSteps_37 rfl ?_
          refine V_icmp_ne 104 42 rfl dX9_doSteps_39 rfl (fun c39 => absurd c39 (by decide)) (fun c39 => ?_)
          refine V_iconst 43 (0) rfl dX9_doSteps_42 rfl ?_
          refine V_istore 45 [(7, .int 0), (6, .int (nI i1)), (0, rf G 34), (1, rf G 18), (2, rf G 3), (4, .int (nI j)), (5, .int (nI (6 - (lev + 1))))] (by decide) rfl dX9_doSteps_43 rfl ?_
          exact V_lv [0, 1, 2, 3, 4, 5, 6] rfl (M 0 (D, bg + 1, dn, rr) I2 (Nat.zero_le _) hX2 ⟨hDI, hLX, by show bg + 1 ≤ 200; omega, by show dn + rr ≤ bg + 1; omega⟩ (Nat.le_refl _) h52 h62 h72 (hF1.tr hF2) eq)
        · rw [if_neg c7] at eq
          have hok : (S i1).1 ≤ 6 ∧ OpOk K (S i1).1 (S i1).2.1 (S i1).2.2.1 := by
            rcases s1.2 with q | q
            · exact absurd q.1 c7
            · exact ⟨q.1, q.2.2⟩
          refine V_iload 5 0 rfl dX9_doSteps_3 rfl ?_
          refine V_iload 7 4 rfl dX9_doSteps_5 rfl ?_
          refine V_icmp_ge 150 10 rfl dX9_doSteps_7 rfl (fun cb => absurd cb (nI_ge cc.1 (by omega))) (fun cb => ?_)
          refine V_aload_n 11 1 rfl _ rfl rfl dX9_doSteps_10 rfl ?_
          refine V_getI 14 34 9 5 (nI bg) h51 flX9_101 rfl rfl rfl (by decide) dX9_doSteps_11 rfl ?_
          refine V_sipush 17 (200) rfl dX9_doSteps_14 rfl ?_
          refine V_icmp_ge 150 20 rfl dX9_doSteps_17 rfl (fun c17 => absurd c17 (nI_ge (b := 200) cc.2 (by decide))) (fun c17 => ?_)
          refine V_aload_n 21 1 rfl _ rfl rfl dX9_doSteps_20 rfl ?_
          refine V_dup 22 rfl dX9_doSteps_21 rfl ?_
          refine V_getI 25 34 9 5 (nI bg) h51 flX9_101 rfl rfl rfl (by decide) dX9_doSteps_22 rfl ?_
          refine V_iconst 26 (1) rfl dX9_doSteps_25 rfl ?_
          refine V_iadd 27 dX9_doSteps_26 rfl ?_
          refine V_rw (nI_add bg 1) ?_
          refine V_putI 30 34 9 5 flX9_101 rfl rfl rfl (by decide) rfl dX9_doSteps_27 rfl ?_
          rw [← eI2]
          refine V_aload_n 31 1 rfl _ rfl rfl dX9_doSteps_30 rfl ?_
          refine V_getR 34 34 9 0 35 (hRK 34 0 (by decide) (by decide) (by decide)) flX9_11 rfl rfl rfl (by decide) dX9_doSteps_31 rfl ?_
          refine V_iload 36 0 rfl dX9_doSteps_34 rfl ?_
          refine V_ialdN 37 35 31 i1 (nI (S i1).1) n1 (by omega) (by decide) rfl (by decide) dX9_doSteps_36 rfl ?_
          refine V_bipush 39 (7) rfl dX9_doSteps_37 rfl ?_
          refine V_icmp_ne 104 42 rfl dX9_doSteps_39 rfl (fun c39 => ?_) (fun c39 => absurd ((nI_eq (b := 7) (by omega) (by decide)).mp c39) c7)
          refine V_aload_n 105 1 rfl _ rfl rfl dX9_doSteps_104 rfl ?_
          refine V_aload_n 106 2 rfl _ rfl rfl dX9_doSteps_105 rfl ?_
          refine V_aload_n 107 3 rfl _ rfl rfl dX9_doSteps_106 rfl ?_
          refine V_iload 109 0 rfl dX9_doSteps_107 rfl ?_
          refine V_callV (K' := 0) (S' := 0) 112 34 9 3 [rf G 18, rf G 3, .int (nI i1)] mkX9_doStep lkX9_114 (by decide) rfl rfl (by decide) rfl (Nat.le_of_ble_eq_true rfl) (Nat.le_of_ble_eq_true rfl) (Nat.le_of_ble_eq_true rfl) (Nat.le_of_ble_eq_true rfl) rfl rfl dX9_doSteps_109 rfl (c_X9_doStep hX2 hDI (show i1 < N by omega) hok.1 hok.2 (fun D3 I3 eg hD3 h34 hF3 => ?_) (fun eg => ?_))
          · refine Kq_i (k' := 0) (sl' := 0) rfl rfl ?_
            rw [eg] at eq
            dsimp only at eq
            have hX3 := hX2.fr hF3 hD3
            obtain ⟨x1, x2⟩ := goF_ok hW hL.R hok.1 hDI hLX hok.2 eg
            have h53 : I3 34 5 = nI (bg + 1) := by rw [h34]; exact h52
            have h63 : I3 34 6 = nI dn := by rw [h34]; exact h62
            have h73 : I3 34 7 = nI rr := by rw [h34]; exact h72
            obtain ⟨k1, k2, k3, k4⟩ := hX3.2.2.2.2.2.2.2.2.2.2.2.1 i1 (Nat.zero_le _) (by omega)
            refine V_if_eq 128 115 rfl dX9_doSteps_112 rfl (fun c112 => absurd c112 (by decide)) (fun c112 => ?_)
            refine V_aload_n 116 1 rfl _ rfl rfl dX9_doSteps_115 rfl ?_
            refine V_dup 117 rfl dX9_doSteps_116 rfl ?_
            refine V_getI 120 34 9 6 (nI dn) h63 flX9_104 rfl rfl rfl (by decide) dX9_doSteps_117 rfl ?_
            refine V_iconst 121 (1) rfl dX9_doSteps_120 rfl ?_
            refine V_iadd 122 dX9_doSteps_121 rfl ?_
            refine V_rw (nI_add dn 1) ?_
            refine V_putI 125 34 9 6 flX9_104 rfl rfl rfl (by decide) rfl dX9_doSteps_122 rfl ?_
            refine V_goto 138 rfl dX9_doSteps_125 ?_
            refine V_aload_n 139 1 rfl _ rfl rfl dX9_doSteps_138 rfl ?_
            refine V_getR 142 34 9 3 38 (hRK 34 3 (by decide) (by decide) (by decide)) flX9_21 rfl rfl rfl (by decide) dX9_doSteps_139 rfl ?_
            refine V_iload 144 0 rfl dX9_doSteps_142 rfl ?_
            refine V_ialdN 145 38 31 i1 (nI (S i1).2.2.2) (by rw [up2_n _ _ _ (by decide)]; exact k4) (by omega) (by decide) rfl (by decide) dX9_doSteps_144 rfl ?_
            refine V_istore 147 [(6, .int (nI (S i1).2.2.2)), (0, rf G 34), (1, rf G 18), (2, rf G 3), (4, .int (nI j)), (5, .int (nI (6 - (lev + 1))))] (by decide) rfl dX9_doSteps_145 rfl ?_
            refine V_goto 3 rfl dX9_doSteps_147 ?_
            exact V_lv [0, 1, 2, 3, 4, 5] rfl (ih (S i1).2.2.2 (D3, bg + 1, dn + 1, rr) _ (by show 200 - (bg + 1) < g; omega) (hX3.fr FrE.rf.u (DayC34 hX3.2.2.2.2.2.2.2.2.2.2.2.2)) ⟨x1, x2, by show bg + 1 ≤ 200; omega, by show dn + 1 + rr ≤ bg + 1; omega⟩ s3 s2 (by rw [up34 (by decide)]; exact h53) (by rw [up2_s]; exact upd_s) (by rw [up34 (by decide)]; exact h73) (((hF1.tr hF2).tr hF3).tr FrE.rf.u) eq)
          · refine Kq_i (k' := 0) (sl' := 0) rfl rfl ?_
            rw [eg] at eq
            dsimp only at eq
            refine V_if_eq 128 115 rfl dX9_doSteps_112 rfl (fun c112 => ?_) (fun c112 => absurd c112 (by decide))
            refine V_aload_n 129 1 rfl _ rfl rfl dX9_doSteps_128 rfl ?_
            refine V_dup 130 rfl dX9_doSteps_129 rfl ?_
            refine V_getI 133 34 9 7 (nI rr) h72 flX9_107 rfl rfl rfl (by decide) dX9_doSteps_130 rfl ?_
            refine V_iconst 134 (1) rfl dX9_doSteps_133 rfl ?_
            refine V_iadd 135 dX9_doSteps_134 rfl ?_
            refine V_rw (nI_add rr 1) ?_
            refine V_putI 138 34 9 7 flX9_107 rfl rfl rfl (by decide) rfl dX9_doSteps_135 rfl ?_
            refine V_aload_n 139 1 rfl _ rfl rfl dX9_doSteps_138 rfl ?_
            refine V_getR 142 34 9 3 38 (hRK 34 3 (by decide) (by decide) (by decide)) flX9_21 rfl rfl rfl (by decide) dX9_doSteps_139 rfl ?_
            refine V_iload 144 0 rfl dX9_doSteps_142 rfl ?_
            refine V_ialdN 145 38 31 i1 (nI (S i1).2.2.2) (by rw [up2_n _ _ _ (by decide)]; exact n4) (by omega) (by decide) rfl (by decide) dX9_doSteps_144 rfl ?_
            refine V_istore 147 [(6, .int (nI (S i1).2.2.2)), (0, rf G 34), (1, rf G 18), (2, rf G 3), (4, .int (nI j)), (5, .int (nI (6 - (lev + 1))))] (by decide) rfl dX9_doSteps_145 rfl ?_
            refine V_goto 3 rfl dX9_doSteps_147 ?_
            exact V_lv [0, 1, 2, 3, 4, 5] rfl (ih (S i1).2.2.2 (D, bg + 1, dn, rr + 1) _ (by show 200 - (bg + 1) < g; omega) (hX2.fr FrE.rf.u (DayC34 hD2)) ⟨hDI, hLX, by show bg + 1 ≤ 200; omega, by show dn + (rr + 1) ≤ bg + 1; omega⟩ s3 s2 (by rw [up34 (by decide)]; exact h52) (by rw [up34 (by decide)]; exact h62) (by rw [up2_s]; exact upd_s) ((hF1.tr hF2).tr FrE.rf.u) eq)
      · rw [if_neg cc] at eq
        by_cases cj : i1 < j
        · refine V_iload 5 0 rfl dX9_doSteps_3 rfl ?_
          refine V_iload 7 4 rfl dX9_doSteps_5 rfl ?_
          refine V_icmp_ge 150 10 rfl dX9_doSteps_7 rfl (fun c7 => absurd c7 (nI_ge cj (by omega))) (fun c7 => ?_)
          refine V_aload_n 11 1 rfl _ rfl rfl dX9_doSteps_10 rfl ?_
          refine V_getI 14 34 9 5 (nI bg) h51 flX9_101 rfl rfl rfl (by decide) dX9_doSteps_11 rfl ?_
          refine V_sipush 17 (200) rfl dX9_doSteps_14 rfl ?_
          refine V_icmp_ge 150 20 rfl dX9_doSteps_17 rfl (fun c17 => ?_) (fun c17 => absurd (nI_le (a := 200) (by omega) (by omega)) c17)
          refine V_ret_v rfl (Nat.le_of_ble_eq_true rfl) (fun h => absurd h (by decide)) (Nat.le_of_ble_eq_true rfl) (by rw [eq] at hq; exact hq I1 hD h51 h61 h71 hF1) dX9_doSteps_150
        · refine V_iload 5 0 rfl dX9_doSteps_3 rfl ?_
          refine V_iload 7 4 rfl dX9_doSteps_5 rfl ?_
          refine V_icmp_ge 150 10 rfl dX9_doSteps_7 rfl (fun c7 => ?_) (fun c7 => absurd (nI_le (show j ≤ i1 by omega) (by omega)) c7)
          refine V_ret_v rfl (Nat.le_of_ble_eq_true rfl) (fun h => absurd h (by decide)) (Nat.le_of_ble_eq_true rfl) (by rw [eq] at hq; exact hq I1 hD h51 h61 h71 hF1) dX9_doSteps_150
  show V _ _ _ _ _ _ _ _ [(0, rf G 34), (1, rf G 18), (2, rf G 3), (3, .int (nI i)), (4, .int (nI j)), (5, .int (nI (6 - (lev + 1))))] [] _ _ _ _ _
  refine V_iload_n 1 3 rfl rfl dX9_doSteps_0 rfl ?_
  refine V_istore 3 [(6, .int (nI i)), (0, rf G 34), (1, rf G 18), (2, rf G 3), (3, .int (nI i)), (4, .int (nI j)), (5, .int (nI (6 - (lev + 1))))] (by decide) rfl dX9_doSteps_1 rfl ?_
  exact V_lv [0, 1, 2, 3, 5, 6] rfl (L 201 i e I (by omega) hX hEI hCh hij h5 h6 h7 FrE.rf eX)
theorem c_X9_run {G : Gx} {K : CO} {f : DV → Int32} {S : SR} : ∀ lev, lev ≤ 6 → DCt G (20 * lev + 20) (6 - lev) K f S (lev + 1) (exL K f S lev) := by
  intro lev
  induction lev with
  | zero => intro _; exact c_X9_doSteps0 (D0 := 0)
  | succ lev ih =>
    intro h
    exact c_X9_doStepsS (D0 := 20 * lev + 20) (by omega) (ih (by omega))
