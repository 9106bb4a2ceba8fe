/-! ===== what the class and the reference hold; what a question may change; answers ===== -/
theorem ly_c {c : Nat} (h : c = 4 ∨ c = 51) : lay c = .inl 2 ∧ lay (c + 1) = .inr (0, 8) ∧ lay (c + 2) = .inr (0, 8) ∧ lay (c + 3) = .inr (0, 6) ∧ lay (c + 4) = .inr (0, 6) ∧ lay (c + 5) = .inr (0, 6) ∧ lay (c + 6) = .inr (0, 6) := by
  rcases h with rfl | rfl <;> exact ⟨rfl, rfl, rfl, rfl, rfl, rfl, rfl⟩
theorem rk_c0 {R : FR} {c : Nat} (hK : RK R) (h : c = 4 ∨ c = 51) : R c 0 = some (c + 1) := by
  rcases h with rfl | rfl
  · exact hK 4 0 (by decide) (by decide) (by decide)
  · exact hK 51 0 (by decide) (by decide) (by decide)
theorem rk_c1 {R : FR} {c : Nat} (hK : RK R) (h : c = 4 ∨ c = 51) : R c 1 = some (c + 2) := by
  rcases h with rfl | rfl
  · exact hK 4 1 (by decide) (by decide) (by decide)
  · exact hK 51 1 (by decide) (by decide) (by decide)
theorem rk_c2 {R : FR} {c : Nat} (hK : RK R) (h : c = 4 ∨ c = 51) : R c 2 = some (c + 3) := by
  rcases h with rfl | rfl
  · exact hK 4 2 (by decide) (by decide) (by decide)
  · exact hK 51 2 (by decide) (by decide) (by decide)
theorem rk_c3 {R : FR} {c : Nat} (hK : RK R) (h : c = 4 ∨ c = 51) : R c 3 = some (c + 4) := by
  rcases h with rfl | rfl
  · exact hK 4 3 (by decide) (by decide) (by decide)
  · exact hK 51 3 (by decide) (by decide) (by decide)
theorem rk_c4 {R : FR} {c : Nat} (hK : RK R) (h : c = 4 ∨ c = 51) : R c 4 = some (c + 5) := by
  rcases h with rfl | rfl
  · exact hK 4 4 (by decide) (by decide) (by decide)
  · exact hK 51 4 (by decide) (by decide) (by decide)
theorem rk_c5 {R : FR} {c : Nat} (hK : RK R) (h : c = 4 ∨ c = 51) : R c 5 = some (c + 6) := by
  rcases h with rfl | rfl
  · exact hK 4 5 (by decide) (by decide) (by decide)
  · exact hK 51 5 (by decide) (by decide) (by decide)
theorem ly_l {l : Nat} (h : l = 11 ∨ l = 58) : lay l = .inl 5 ∧ lay (l + 1) = .inr (0, 150) ∧ lay (l + 2) = .inr (0, 150) ∧ lay (l + 3) = .inr (0, 150) ∧ lay (l + 4) = .inr (0, 150) := by
  rcases h with rfl | rfl <;> exact ⟨rfl, rfl, rfl, rfl, rfl⟩
theorem rk_l0 {R : FR} {l : Nat} (hK : RK R) (h : l = 11 ∨ l = 58) : R l 0 = some (l + 1) := by
  rcases h with rfl | rfl
  · exact hK 11 0 (by decide) (by decide) (by decide)
  · exact hK 58 0 (by decide) (by decide) (by decide)
theorem rk_l1 {R : FR} {l : Nat} (hK : RK R) (h : l = 11 ∨ l = 58) : R l 1 = some (l + 2) := by
  rcases h with rfl | rfl
  · exact hK 11 1 (by decide) (by decide) (by decide)
  · exact hK 58 1 (by decide) (by decide) (by decide)
theorem rk_l2 {R : FR} {l : Nat} (hK : RK R) (h : l = 11 ∨ l = 58) : R l 2 = some (l + 3) := by
  rcases h with rfl | rfl
  · exact hK 11 2 (by decide) (by decide) (by decide)
  · exact hK 58 2 (by decide) (by decide) (by decide)
theorem rk_l3 {R : FR} {l : Nat} (hK : RK R) (h : l = 11 ∨ l = 58) : R l 3 = some (l + 4) := by
  rcases h with rfl | rfl
  · exact hK 11 3 (by decide) (by decide) (by decide)
  · exact hK 58 3 (by decide) (by decide) (by decide)
theorem ly_b {b : Nat} (h : b = 63 ∨ b = 66) : lay b = .inl 1 ∧ lay (b + 1) = .inr (0, 8) ∧ lay (b + 2) = .inr (0, 8) := by
  rcases h with rfl | rfl <;> exact ⟨rfl, rfl, rfl⟩
theorem rk_b0 {R : FR} {b : Nat} (hK : RK R) (h : b = 63 ∨ b = 66) : R b 0 = some (b + 1) := by
  rcases h with rfl | rfl
  · exact hK 63 0 (by decide) (by decide) (by decide)
  · exact hK 66 0 (by decide) (by decide) (by decide)
theorem rk_b1 {R : FR} {b : Nat} (hK : RK R) (h : b = 63 ∨ b = 66) : R b 1 = some (b + 2) := by
  rcases h with rfl | rfl
  · exact hK 63 1 (by decide) (by decide) (by decide)
  · exact hK 66 1 (by decide) (by decide) (by decide)

theorem in_nI {x : Int32} {n : Nat} (hn : n < 2 ^ 31) (h1 : 0 ≤ x) (h2 : x ≤ nI n) : ∃ j, j ≤ n ∧ x = nI j := by
  obtain ⟨j, hj, rfl⟩ := nI_of (Int32.not_lt.mpr h1)
  have h3 := Int32.le_iff_toInt_le.mp h2
  rw [nI_toInt hj, nI_toInt hn] at h3
  exact ⟨j, by omega, rfl⟩
def RS (R : FR) (c l b : Nat) : Prop := ∀ o k, o < 69 → R o k = refC c l b o k
theorem RS.K {R : FR} {c l b : Nat} (h : RS R c l b) : RK R := by
  intro o k h1 h2 h3
  rw [h o k h1]
  unfold refC
  split
  · exact absurd rfl h2
  · exact absurd rfl h3
  · rfl
/-- the class -/
def RC (I : FI) (R : FR) (c l b : Nat) (K : CO) (f : DV → Int32) (D : DV) : Prop := RS R c l b ∧ (c = 4 ∨ c = 51) ∧ (l = 11 ∨ l = 58) ∧ (b = 63 ∨ b = 66) ∧ CoastC I c K ∧ WK K ∧ DayC I 18 D ∧ DI K D ∧ LawC I l f
/-- the reference -/
def RM (I : FI) (R : FR) (K : CO) (f : DV → Int32) (D : DV) : Prop := (∀ k, R 69 k = refM k) ∧ CoastM I K ∧ WK K ∧ (∀ k, k < 51 → I 88 k = D k) ∧ DI K D ∧ LawM I f ∧ fR f
/-- nothing but what a question works with differs -/
def FrQ (I I' : FI) : Prop := ∀ a, (a < 15 ∨ 17 < a) → a ≠ 62 → (a < 26 ∨ 38 < a) → (a < 43 ∨ 50 < a) → I' a = I a
theorem FrQ.rf {I : FI} : FrQ I I := fun _ _ _ _ _ => rfl
theorem FrQ.tr {I I1 I2 : FI} (h : FrQ I I1) (h2 : FrQ I1 I2) : FrQ I I2 := fun a b c e f => (h2 a b c e f).trans (h a b c e f)
theorem FrQ.P {I I' : FI} {l : Nat} (h : FrP I I' 26 l) (hl : l = 11 ∨ l = 58) : FrQ I I' := fun a h1 h2 h3 h4 => h a (by omega) (by omega) (by omega) (by omega)
theorem FrQ.C {I I' : FI} (h : FrC I I' 26) : FrQ I I' := fun a h1 h2 h3 h4 => h a (by omega)
theorem FrQ.s {I I' : FI} {l : Nat} (h : ∀ a, a ≠ 16 → a ≠ l + 4 → I' a = I a) (hl : l = 11 ∨ l = 58) : FrQ I I' := fun a h1 h2 h3 h4 => h a (by omega) (by omega)
theorem FrQ.u {I I' : FI} {a k : Nat} {v : Int32} (h : FrQ I I') (ha : (15 ≤ a ∧ a ≤ 17) ∨ a = 62 ∨ (26 ≤ a ∧ a ≤ 38) ∨ (43 ≤ a ∧ a ≤ 50)) : FrQ I (up2 I' a k v) := fun e h1 h2 h3 h4 => by
  rw [up2_n _ _ _ (by omega)]; exact h e h1 h2 h3 h4
def FrM (I I' : FI) : Prop := (∀ a, a ≠ 69 → a ≠ 84 → a ≠ 85 → a ≠ 89 → a ≠ 91 → (a < 94 ∨ 100 < a) → I' a = I a) ∧ I' 69 0 = 0 ∧ ∀ j, j ≠ 0 → j ≠ 54 → I' 69 j = I 69 j
theorem FrM.z {I I0 : FI} (h : I0 = up2 I 69 0 0) : FrM I I0 := by
  subst h
  refine ⟨fun a h1 _ _ _ _ _ => up2_n _ _ _ h1, by rw [up2_s]; exact upd_s, fun j h1 _ => by rw [up2_s]; exact upd_n h1⟩
theorem FrM.go {I I1 I2 : FI} (h : FrM I I1) (h2 : ∀ a, a ≠ 84 → a ≠ 85 → a ≠ 89 → a ≠ 91 → (a < 94 ∨ 100 < a) → I2 a = I1 a) : FrM I I2 := by
  obtain ⟨a1, a2, a3⟩ := h
  have e := h2 69 (by decide) (by decide) (by decide) (by decide) (by decide)
  exact ⟨fun a q1 q2 q3 q4 q5 q6 => (h2 a q2 q3 q4 q5 q6).trans (a1 a q1 q2 q3 q4 q5 q6), by rw [e]; exact a2, fun j q1 q2 => by rw [e]; exact a3 j q1 q2⟩
/-- a day's picture in the reference, behind a take -/
theorem RM.fr {I I' : FI} {R : FR} {K : CO} {f : DV → Int32} {D : DV} (h : RM I R K f D) (hf : FrM I I') : RM I' R K f D := by
  obtain ⟨h1, h2, h3, h4, h5, h6, h7⟩ := h
  obtain ⟨a1, a2, a3⟩ := hf
  refine ⟨h1, h2.fr (a3 21 (by decide) (by decide)) (a3 22 (by decide) (by decide)) (a3 23 (by decide) (by decide)) (fun a q1 q2 => a1 a (by omega) (by omega) (by omega) (by omega) (by omega) (by omega)), h3, fun k hk => by rw [a1 88 (by decide) (by decide) (by decide) (by decide) (by decide) (by decide)]; exact h4 k hk, h5, h6.fr (a3 30 (by decide) (by decide)) (a1 82 (by decide) (by decide) (by decide) (by decide) (by decide) (by decide)) (a1 83 (by decide) (by decide) (by decide) (by decide) (by decide) (by decide)), h7⟩
/-- an answer: a value, or a refusal (0 no such one, 1 not allowed) -/
abbrev Oc : Type := Int32 ⊕ Nat
def ckN (x : Int32) (c : Nat) (o : Oc) : Oc := if 0 ≤ x ∧ x ≤ nI c - 1 then o else .inr 0
def ckW (x lo hi : Int32) (o : Oc) : Oc := if lo ≤ x ∧ x ≤ hi then o else .inr 1
theorem ckN_y {x : Int32} {c : Nat} {o : Oc} (hc : c < 2 ^ 30) (h : Ix x c) : ckN x c o = o := if_pos ((Ix.w hc).mpr h)
theorem ckN_n {x : Int32} {c : Nat} {o : Oc} (hc : c < 2 ^ 30) (h : ¬ Ix x c) : ckN x c o = .inr 0 := if_neg (fun q => h ((Ix.w hc).mp q))
theorem ckW_y {x lo hi : Int32} {o : Oc} (h1 : lo ≤ x) (h2 : x ≤ hi) : ckW x lo hi o = o := if_pos ⟨h1, h2⟩
theorem ckW_n {x lo hi : Int32} {o : Oc} (h : ¬ (lo ≤ x ∧ x ≤ hi)) : ckW x lo hi o = .inr 1 := if_neg h
def oQ (o : Oc) : Ot := match o with
  | .inl v => .inl (some (.int v))
  | .inr k => .inr k
def FrO (o : Oc) (I I' : FI) : Prop := match o with
  | .inl _ => FrQ I I'
  | .inr k => I' = up2 I 0 (13 + k) (I 0 (13 + k) + 1)
def Ho (I : FI) (R : FR) (J : FJ) (Q : Po) (o : Oc) : Prop := ∀ I', FrO o I I' → Q (oQ o) 103 I' R J
def HoM (I : FI) (R : FR) (J : FJ) (Q : Po) (cd : Nat) (o : Oc) : Prop := match o with
  | .inl v => ∀ I', FrM I I' → Q (.inl (some (.int v))) 103 I' R J
  | .inr k => ∀ I', (∀ a, a ≠ 69 → a ≠ 70 → I' a = I a) → (∀ j, j ≠ 0 → I' 69 j = I 69 j) → I' 69 0 = nI (if k = 0 then 1 else cd) → I' 70 = upd (I 70) k (I 70 k + 1) → Q (.inl (some (.int 0))) 103 I' R J
theorem HoM.x {I I0 : FI} {R : FR} {J : FJ} {Q : Po} {cd k : Nat} {v : Int32} (h : HoM I R J Q cd (.inr k)) (h0 : I0 = up2 I 69 0 0) (hv : v = nI (if k = 0 then 1 else cd)) : Q (.inl (some (.int 0))) 103 (up2 (up2 I0 69 0 v) 70 k (I0 70 k + 1)) R J := by
  subst h0
  refine h _ (fun a h1 h2 => ?_) (fun j h1 => ?_) ?_ ?_
  · rw [up2_n _ _ _ h2, up2_n _ _ _ h1, up2_n _ _ _ h1]
  · rw [up2_n _ _ _ (by decide), up2_s, upd_n h1, up2_s, upd_n h1]
  · rw [up2_n _ _ _ (by decide), up2_s, upd_s, hv]
  · rw [up2_s, up2_n _ _ _ (by decide), up2_n _ _ _ (by decide)]
