/-! ===== squall ===== -/
abbrev OcL : Type := Int64 ⊕ Nat
def ckL (x lo hi : Int32) (o : OcL) : OcL := if lo ≤ x ∧ x ≤ hi then o else .inr 1
theorem ckL_y {x lo hi : Int32} {o : OcL} (h1 : lo ≤ x) (h2 : x ≤ hi) : ckL x lo hi o = o := if_pos ⟨h1, h2⟩
theorem ckL_n {x lo hi : Int32} {o : OcL} (h : ¬ (lo ≤ x ∧ x ≤ hi)) : ckL x lo hi o = .inr 1 := if_neg h
def HoL (I : FI) (R : FR) (J : FJ) (Q : Po) (o : OcL) : Prop := match o with
  | .inl v => Q (.inl (some (.long v))) 103 I R J
  | .inr k => ∀ I', I' = up2 I 0 (13 + k) (I 0 (13 + k) + 1) → Q (.inr k) 103 I' R J
def HoLM (I : FI) (R : FR) (J : FJ) (Q : Po) (cd : Nat) (o : OcL) : Prop := match o with
  | .inl v => ∀ I', FrM I I' → Q (.inl (some (.long v))) 103 I' R J
  | .inr k => ∀ I', (∀ a, a ≠ 69 → a ≠ 70 → I' a = I a) → (∀ j, j ≠ 0 → I' 69 j = I 69 j) → I' 69 0 = nI (if k = 0 then 1 else cd) → I' 70 = upd (I 70) k (I 70 k + 1) → Q (.inl (some (.long 0))) 103 I' R J
theorem HoLM.x {I I0 : FI} {R : FR} {J : FJ} {Q : Po} {cd k : Nat} {v : Int32} (h : HoLM I R J Q cd (.inr k)) (h0 : I0 = up2 I 69 0 0) (hv : v = nI (if k = 0 then 1 else cd)) : Q (.inl (some (.long 0))) 103 (up2 (up2 I0 69 0 v) 70 k (I0 70 k + 1)) R J := by
  subst h0
  refine h _ (fun a h1 h2 => ?_) (fun j h1 => ?_) ?_ ?_
  · rw [up2_n _ _ _ h2, up2_n _ _ _ h1, up2_n _ _ _ h1]
  · rw [up2_n _ _ _ (by decide), up2_s, upd_n h1, up2_s, upd_n h1]
  · rw [up2_n _ _ _ (by decide), up2_s, upd_s, hv]
  · rw [up2_s, up2_n _ _ _ (by decide), up2_n _ _ _ (by decide)]
def sqP (v : Nat) : Nat → Nat
  | 0 => 1
  | i + 1 => sqP v i * (16 - v)
def sqQ (v : Nat) : Nat → Nat
  | 0 => 0
  | i + 1 => sqQ v i * (16 - v) + sqP v i * v
def sqW : Nat → Nat
  | 0 => 1
  | i + 1 => sqW i * 16
theorem sq_le {v : Nat} (hv : v ≤ 16) : ∀ i, sqP v i + sqQ v i ≤ sqW i := by
  intro i
  induction i with
  | zero => exact Nat.le_refl _
  | succ i ih =>
    rw [sqP, sqQ, sqW]
    have e : sqP v i * (16 - v) + sqP v i * v = sqP v i * 16 := by rw [← Nat.mul_add, Nat.sub_add_cancel hv]
    have e2 : sqQ v i * (16 - v) ≤ sqQ v i * 16 := Nat.mul_le_mul_left _ (by omega)
    omega
theorem sqW_0 : ∀ i, 0 < sqW i := by
  intro i
  induction i with
  | zero => decide
  | succ i ih => rw [sqW]; omega
theorem sqW_le {i : Nat} (h : i ≤ 12) : sqW i ≤ 2 ^ 48 := by
  rcases (show i = 0 ∨ i = 1 ∨ i = 2 ∨ i = 3 ∨ i = 4 ∨ i = 5 ∨ i = 6 ∨ i = 7 ∨ i = 8 ∨ i = 9 ∨ i = 10 ∨ i = 11 ∨ i = 12 by omega) with rfl | rfl | rfl | rfl | rfl | rfl | rfl | rfl | rfl | rfl | rfl | rfl | rfl <;> decide
def gcF : Nat → Nat → Nat → Nat
  | 0, a, _ => a
  | k + 1, a, b => if b = 0 then a else gcF k b (a % b)
theorem gcF_ok : ∀ j k a b, b < 2 ^ j → gcF (2 * j + k) a b = Nat.gcd a b := by
  have g0 : ∀ k a, gcF k a 0 = a := by
    intro k a
    cases k with
    | zero => rfl
    | succ k => rw [gcF, if_pos rfl]
  intro j
  induction j with
  | zero =>
    intro k a b h
    have : b = 0 := by have : (2 : Nat) ^ 0 = 1 := rfl; omega
    subst this
    rw [g0, Nat.gcd_zero_right]
  | succ j ih =>
    intro k a b h
    by_cases c : b = 0
    · subst c
      rw [g0, Nat.gcd_zero_right]
    have h' : b < 2 * 2 ^ j := by rw [Nat.pow_succ] at h; omega
    have r1 := Nat.mod_lt a (Nat.pos_of_ne_zero c)
    rw [show 2 * (j + 1) + k = (2 * j + k + 1) + 1 by omega, gcF, if_neg c, Nat.gcd_comm a b, Nat.gcd_rec, Nat.gcd_comm]
    obtain ⟨r, er⟩ : ∃ r, r = a % b := ⟨_, rfl⟩
    rw [← er] at r1 ⊢
    by_cases c2 : r = 0
    · subst c2
      rw [g0, Nat.gcd_zero_right]
    rw [gcF, if_neg c2, Nat.gcd_comm b r, Nat.gcd_rec, Nat.gcd_comm]
    refine ih k r (b % r) ?_
    have r2 := Nat.mod_lt b (Nat.pos_of_ne_zero c2)
    by_cases c3 : r ≤ 2 ^ j
    · omega
    · rw [Nat.mod_eq_sub_mod (show b ≥ r by omega), Nat.mod_eq_of_lt (by omega)]
      omega
def sqF (v n : Nat) (z : Int32) : Int64 := if z = 0 then lN ((sqP v n + sqQ v n) / Nat.gcd (sqP v n + sqQ v n) (sqW n)) else lN (sqW n / Nat.gcd (sqP v n + sqQ v n) (sqW n))
theorem lN_n0 {b : Nat} (hb : b < 2 ^ 63) (h : 0 < b) : ¬ lN b = 0 := fun e => absurd ((pk_lEQ (b := 0) hb (by decide)).mp e) (by omega)
set_option maxHeartbeats 4000000 in
theorem c_X10_gd {G : Gx} {d : Nat} {I : FI} {R : FR} {J : FJ} {Q : Po} {a b : Nat} (ha : a ≤ 2 ^ 48) (hb : b ≤ 2 ^ 48) (h0 : 0 < b) (hq : Q (.inl (some (.long (lN (Nat.gcd a b))))) 103 I R J) : Cc G mX10_greatestDivisor d 0 0 [.long (lN a), .long (lN b)] 103 I R J Q := by
  have eg : gcF 100 b a = Nat.gcd a b := (gcF_ok 49 2 b a (by omega)).trans (Nat.gcd_comm _ _)
  have g0 : 0 < Nat.gcd a b := Nat.gcd_pos_of_pos_right _ h0
  obtain ⟨g, hg⟩ : ∃ g, g = Nat.gcd a b := ⟨_, rfl⟩
  rw [← hg] at eg g0 hq
  have L : ∀ k, k ≤ 100 → ∀ a b, a ≤ 2 ^ 48 → b ≤ 2 ^ 48 → gcF k a b = g → V G mX10_greatestDivisor d 0 0 0 0 9 [(8, .int (nI (100 - k))), (4, .long (lN a)), (6, .long (lN b))] [] 103 I R J Q := by
    intro k
    induction k with
    | zero =>
      intro _ a b h1 h2 e
      have e : a = g := e
      subst e
      show V _ _ _ _ _ _ _ _ [(8, .int (nI 100)), (4, .long (lN a)), (6, .long (lN b))] [] _ _ _ _ _
      refine V_iload 11 0 rfl dX10_greatestDivisor_9 rfl ?_
      refine V_bipush 13 (100) rfl dX10_greatestDivisor_11 rfl ?_
      refine V_icmp_ge 44 16 rfl dX10_greatestDivisor_13 rfl (fun c13 => ?_) (fun c13 => absurd (Int32.le_refl _) c13)
      refine V_lload 46 1 rfl dX10_greatestDivisor_44 rfl ?_
      refine V_lconst 47 0 rfl dX10_greatestDivisor_46 rfl ?_
      refine V_lcmp 48 dX10_greatestDivisor_47 rfl ?_
      refine V_if_le 56 51 rfl dX10_greatestDivisor_48 rfl (fun c48 => absurd ((pk_lLE (b := 0) (by omega) (by decide)).mp ((lg_cmp_le _ _).mp c48)) (by omega)) (fun c48 => ?_)
      refine V_lload 53 1 rfl dX10_greatestDivisor_51 rfl ?_
      refine V_goto 57 rfl dX10_greatestDivisor_53 ?_
      refine V_ret_l rfl (Nat.le_of_ble_eq_true rfl) (fun h => absurd h (by decide)) (Nat.le_of_ble_eq_true rfl) (hq) dX10_greatestDivisor_57
    | succ k ih =>
      intro hk a b h1 h2 e
      have eI : nI (100 - (k + 1)) + Int32.ofInt 1 = nI (100 - k) := (nI_1 _).trans (by congr 1; omega)
      rw [gcF] at e
      by_cases c : b = 0
      · rw [if_pos c] at e
        subst e
        refine V_iload 11 0 rfl dX10_greatestDivisor_9 rfl ?_
        refine V_bipush 13 (100) rfl dX10_greatestDivisor_11 rfl ?_
        refine V_icmp_ge 44 16 rfl dX10_greatestDivisor_13 rfl (fun c13 => absurd c13 (nI_ge (b := 100) (show 100 - (k + 1) < 100 by omega) (by decide))) (fun c13 => ?_)
        refine V_lload 18 2 rfl dX10_greatestDivisor_16 rfl ?_
        refine V_lconst 19 0 rfl dX10_greatestDivisor_18 rfl ?_
        refine V_lcmp 20 dX10_greatestDivisor_19 rfl ?_
        refine V_if_eq 44 23 rfl dX10_greatestDivisor_20 rfl (fun c20 => ?_) (fun c20 => absurd ((lg_cmp_eq _ _).mpr (show lN b = 0 from by rw [c]; rfl)) c20)
        refine V_lload 46 1 rfl dX10_greatestDivisor_44 rfl ?_
        refine V_lconst 47 0 rfl dX10_greatestDivisor_46 rfl ?_
        refine V_lcmp 48 dX10_greatestDivisor_47 rfl ?_
        refine V_if_le 56 51 rfl dX10_greatestDivisor_48 rfl (fun c48 => absurd ((pk_lLE (b := 0) (by omega) (by decide)).mp ((lg_cmp_le _ _).mp c48)) (by omega)) (fun c48 => ?_)
        refine V_lload 53 1 rfl dX10_greatestDivisor_51 rfl ?_
        refine V_goto 57 rfl dX10_greatestDivisor_53 ?_
        refine V_ret_l rfl (Nat.le_of_ble_eq_true rfl) (fun h => absurd h (by decide)) (Nat.le_of_ble_eq_true rfl) (hq) dX10_greatestDivisor_57
      · rw [if_neg c] at e
        refine V_iload 11 0 rfl dX10_greatestDivisor_9 rfl ?_
        refine V_bipush 13 (100) rfl dX10_greatestDivisor_11 rfl ?_
        refine V_icmp_ge 44 16 rfl dX10_greatestDivisor_13 rfl (fun c13 => absurd c13 (nI_ge (b := 100) (show 100 - (k + 1) < 100 by omega) (by decide))) (fun c13 => ?_)
        refine V_lload 18 2 rfl dX10_greatestDivisor_16 rfl ?_
        refine V_lconst 19 0 rfl dX10_greatestDivisor_18 rfl ?_
        refine V_lcmp 20 dX10_greatestDivisor_19 rfl ?_
        refine V_if_eq 44 23 rfl dX10_greatestDivisor_20 rfl (fun c20 => absurd ((lg_cmp_eq _ _).mp c20) (lN_n0 (by omega) (by omega))) (fun c20 => ?_)
        refine V_lload 25 1 rfl dX10_greatestDivisor_23 rfl ?_
        refine V_lload 27 2 rfl dX10_greatestDivisor_25 rfl ?_
        refine V_lrem 28 (lN_n0 (by omega) (by omega)) dX10_greatestDivisor_27 rfl ?_
        rw [show (lN a) - (lN a) / (lN b) * (lN b) = lN (a % b) from pk_lRem (by omega) (by omega) (by omega)]
        refine V_lstore 30 [(9, .long (lN (a % b))), (8, .int (nI (100 - (k + 1)))), (4, .long (lN a)), (6, .long (lN b))] (by decide) rfl dX10_greatestDivisor_28 rfl ?_
        refine V_lload 32 3 rfl dX10_greatestDivisor_30 rfl ?_
        refine V_lstore 34 [(4, .long (lN b)), (9, .long (lN (a % b))), (8, .int (nI (100 - (k + 1)))), (6, .long (lN b))] (by decide) rfl dX10_greatestDivisor_32 rfl ?_
        refine V_lload 36 1 rfl dX10_greatestDivisor_34 rfl ?_
        refine V_lstore 38 [(6, .long (lN (a % b))), (4, .long (lN b)), (9, .long (lN (a % b))), (8, .int (nI (100 - (k + 1))))] (by decide) rfl dX10_greatestDivisor_36 rfl ?_
        refine V_iinc 41 3 rfl (nI (100 - k)) [(8, .int (nI (100 - k))), (6, .long (lN (a % b))), (4, .long (lN b)), (9, .long (lN (a % b)))] eI (by decide) rfl dX10_greatestDivisor_38 rfl ?_
        refine V_goto 9 rfl dX10_greatestDivisor_41 ?_
        have r1 := Nat.mod_lt a (Nat.pos_of_ne_zero c)
        exact V_lv [0, 2, 1] rfl (ih (by omega) b (a % b) h2 (by omega) e)
  show V _ _ _ _ _ _ _ _ [(0, .long (lN a)), (2, .long (lN b))] [] _ _ _ _ _
  refine V_lload_n 1 1 rfl rfl dX10_greatestDivisor_0 rfl ?_
  refine V_lstore 3 [(4, .long (lN b)), (0, .long (lN a)), (2, .long (lN b))] (by decide) rfl dX10_greatestDivisor_1 rfl ?_
  refine V_lload_n 4 1 rfl rfl dX10_greatestDivisor_3 rfl ?_
  refine V_lstore 6 [(6, .long (lN a)), (4, .long (lN b)), (0, .long (lN a)), (2, .long (lN b))] (by decide) rfl dX10_greatestDivisor_4 rfl ?_
  refine V_iconst 7 (0) rfl dX10_greatestDivisor_6 rfl ?_
  refine V_istore 9 [(8, .int 0), (6, .long (lN a)), (4, .long (lN b)), (0, .long (lN a)), (2, .long (lN b))] (by decide) rfl dX10_greatestDivisor_7 rfl ?_
  exact V_lv [0, 2, 1] rfl (L 100 (Nat.le_refl _) b a hb ha eg)
set_option maxHeartbeats 4000000 in
theorem c_X11_least {G : Gx} {d : Nat} {I : FI} {R : FR} {J : FJ} {Q : Po} {A B : Nat} {z : Int32} (ha : A ≤ 2 ^ 48) (hb : B ≤ 2 ^ 48) (h0 : 0 < B) (hq : Q (.inl (some (.long (if z = 0 then lN (A / Nat.gcd A B) else lN (B / Nat.gcd A B))))) 103 I R J) : Cc G mX11_least d 0 0 [.long (lN A), .long (lN B), .int z] 103 I R J Q := by
  have g0 : 0 < Nat.gcd A B := Nat.gcd_pos_of_pos_right _ h0
  have g1 : Nat.gcd A B ≤ B := Nat.gcd_le_right _ h0
  have eg : Nat.gcd A B = Nat.gcd A B := rfl
  obtain ⟨g, hg⟩ : ∃ g, g = Nat.gcd A B := ⟨_, rfl⟩
  rw [← hg] at g0 g1 hq
  have L : ∀ n b a, b ≤ n → a ≤ 2 ^ 48 → b ≤ 2 ^ 48 → Nat.gcd a b = g → V G mX11_least d 0 0 0 0 6 [(5, .long (lN a)), (7, .long (lN b)), (0, .long (lN A)), (2, .long (lN B)), (4, .int z)] [] 103 I R J Q := by
    intro n
    induction n with
    | zero =>
      intro b a hn h1 h2 e
      have c : b = 0 := Nat.le_zero.mp hn
      rw [c, Nat.gcd_zero_right] at e
      subst e
      refine V_lload 8 1 rfl dX11_least_6 rfl ?_
      refine V_lconst 9 0 rfl dX11_least_8 rfl ?_
      refine V_lcmp 10 dX11_least_9 rfl ?_
      refine V_if_eq 31 13 rfl dX11_least_10 rfl (fun c10 => ?_) (fun c10 => absurd ((lg_cmp_eq _ _).mpr (show lN b = 0 from by rw [c]; rfl)) c10)
      refine V_iload 33 4 rfl dX11_least_31 rfl ?_
      refine V_if_ne 40 36 rfl dX11_least_33 rfl (fun c33 => ?_) (fun c33 => ?_)
      · refine V_lload_n 41 3 rfl rfl dX11_least_40 rfl ?_
        refine V_lload 43 0 rfl dX11_least_41 rfl ?_
        refine V_ldiv 44 (lN_n0 (by omega) (by omega)) dX11_least_43 rfl ?_
        rw [show lN B / lN a = lN (B / a) from pk_lDiv (by omega) (by omega) (by omega)]
        refine V_ret_l rfl (Nat.le_of_ble_eq_true rfl) (fun h => absurd h (by decide)) (Nat.le_of_ble_eq_true rfl) (by rw [if_neg c33] at hq; exact hq) dX11_least_44
      · refine V_lload_n 37 2 rfl rfl dX11_least_36 rfl ?_
        refine V_goto 41 rfl dX11_least_37 ?_
        refine V_lload 43 0 rfl dX11_least_41 rfl ?_
        refine V_ldiv 44 (lN_n0 (by omega) (by omega)) dX11_least_43 rfl ?_
        rw [show lN A / lN a = lN (A / a) from pk_lDiv (by omega) (by omega) (by omega)]
        refine V_ret_l rfl (Nat.le_of_ble_eq_true rfl) (fun h => absurd h (by decide)) (Nat.le_of_ble_eq_true rfl) (by rw [if_pos c33] at hq; exact hq) dX11_least_44
    | succ n ih =>
      intro b a hn h1 h2 e
      by_cases c : b = 0
      · rw [c, Nat.gcd_zero_right] at e
        subst e
        refine V_lload 8 1 rfl dX11_least_6 rfl ?_
        refine V_lconst 9 0 rfl dX11_least_8 rfl ?_
        refine V_lcmp 10 dX11_least_9 rfl ?_
        refine V_if_eq 31 13 rfl dX11_least_10 rfl (fun c10 => ?_) (fun c10 => absurd ((lg_cmp_eq _ _).mpr (show lN b = 0 from by rw [c]; rfl)) c10)
        refine V_iload 33 4 rfl dX11_least_31 rfl ?_
        refine V_if_ne 40 36 rfl dX11_least_33 rfl (fun c33 => ?_) (fun c33 => ?_)
        · refine V_lload_n 41 3 rfl rfl dX11_least_40 rfl ?_
          refine V_lload 43 0 rfl dX11_least_41 rfl ?_
          refine V_ldiv 44 (lN_n0 (by omega) (by omega)) dX11_least_43 rfl ?_
          rw [show lN B / lN a = lN (B / a) from pk_lDiv (by omega) (by omega) (by omega)]
          refine V_ret_l rfl (Nat.le_of_ble_eq_true rfl) (fun h => absurd h (by decide)) (Nat.le_of_ble_eq_true rfl) (by rw [if_neg c33] at hq; exact hq) dX11_least_44
        · refine V_lload_n 37 2 rfl rfl dX11_least_36 rfl ?_
          refine V_goto 41 rfl dX11_least_37 ?_
          refine V_lload 43 0 rfl dX11_least_41 rfl ?_
          refine V_ldiv 44 (lN_n0 (by omega) (by omega)) dX11_least_43 rfl ?_
          rw [show lN A / lN a = lN (A / a) from pk_lDiv (by omega) (by omega) (by omega)]
          refine V_ret_l rfl (Nat.le_of_ble_eq_true rfl) (fun h => absurd h (by decide)) (Nat.le_of_ble_eq_true rfl) (by rw [if_pos c33] at hq; exact hq) dX11_least_44
      · refine V_lload 8 1 rfl dX11_least_6 rfl ?_
        refine V_lconst 9 0 rfl dX11_least_8 rfl ?_
        refine V_lcmp 10 dX11_least_9 rfl ?_
        refine V_if_eq 31 13 rfl dX11_least_10 rfl (fun c10 => absurd ((lg_cmp_eq _ _).mp c10) (lN_n0 (by omega) (by omega))) (fun c10 => ?_)
        refine V_lload 15 0 rfl dX11_least_13 rfl ?_
        refine V_lload 17 1 rfl dX11_least_15 rfl ?_
        refine V_lrem 18 (lN_n0 (by omega) (by omega)) dX11_least_17 rfl ?_
        rw [show (lN a) - (lN a) / (lN b) * (lN b) = lN (a % b) from pk_lRem (by omega) (by omega) (by omega)]
        refine V_lstore 20 [(9, .long (lN (a % b))), (5, .long (lN a)), (7, .long (lN b)), (0, .long (lN A)), (2, .long (lN B)), (4, .int z)] (by decide) rfl dX11_least_18 rfl ?_
        refine V_lload 22 2 rfl dX11_least_20 rfl ?_
        refine V_lstore 24 [(5, .long (lN b)), (9, .long (lN (a % b))), (7, .long (lN b)), (0, .long (lN A)), (2, .long (lN B)), (4, .int z)] (by decide) rfl dX11_least_22 rfl ?_
        refine V_lload 26 1 rfl dX11_least_24 rfl ?_
        refine V_lstore 28 [(7, .long (lN (a % b))), (5, .long (lN b)), (9, .long (lN (a % b))), (0, .long (lN A)), (2, .long (lN B)), (4, .int z)] (by decide) rfl dX11_least_26 rfl ?_
        refine V_goto 6 rfl dX11_least_28 ?_
        have r1 := Nat.mod_lt a (Nat.pos_of_ne_zero c)
        exact V_lv [1, 0, 3, 4, 5] rfl (ih (a % b) b (by omega) h2 (by omega) (by rw [Nat.gcd_comm, ← Nat.gcd_rec, Nat.gcd_comm]; exact e))
  show V _ _ _ _ _ _ _ _ [(0, .long (lN A)), (2, .long (lN B)), (4, .int z)] [] _ _ _ _ _
  refine V_lload_n 1 0 rfl rfl dX11_least_0 rfl ?_
  refine V_lstore 3 [(5, .long (lN A)), (0, .long (lN A)), (2, .long (lN B)), (4, .int z)] (by decide) rfl dX11_least_1 rfl ?_
  refine V_lload_n 4 2 rfl rfl dX11_least_3 rfl ?_
  refine V_lstore 6 [(7, .long (lN B)), (5, .long (lN A)), (0, .long (lN A)), (2, .long (lN B)), (4, .int z)] (by decide) rfl dX11_least_4 rfl ?_
  exact V_lv [1, 0, 2, 3, 4] rfl (L B B A (Nat.le_refl _) ha hb hg.symm)
set_option maxHeartbeats 8000000 in
theorem c_X10_squall {G : Gx} {d : Nat} {I : FI} {R : FR} {J : FJ} {Q : Po} {x y z : Int32} (hq : HoL I R J Q (ckL x 0 16 (ckL y 0 12 (ckL z 0 1 (.inl (sqF x.toNatClampNeg y.toNatClampNeg z)))))) : Cc G mX10_squall (d + 60) 8 48 [rf G 0, .int x, .int y, .int z] 103 I R J Q := by
  show V _ _ _ _ _ _ _ _ [(0, rf G 0), (1, .int x), (2, .int y), (3, .int z)] [] _ _ _ _ _
  refine V_aload_n 1 0 rfl _ rfl rfl dX10_squall_0 rfl ?_
  refine V_iload_n 2 1 rfl rfl dX10_squall_1 rfl ?_
  refine V_iconst 3 (0) rfl dX10_squall_2 rfl ?_
  refine V_bipush 5 (16) rfl dX10_squall_3 rfl ?_
  refine V_callV (K' := 1) (S' := 6) 8 0 10 3 [.int x, .int 0, .int 16] mkX10_needWithin lkX10_158 (by decide) rfl rfl (by decide) rfl (Nat.le_of_ble_eq_true rfl) (Nat.le_of_ble_eq_true rfl) (Nat.le_of_ble_eq_true rfl) (Nat.le_of_ble_eq_true rfl) rfl rfl dX10_squall_5 rfl (c_X10_needWithin (fun a5 b5 => ?_) (fun a5 => by rw [ckL_n a5] at hq; exact hq _ rfl))
  refine Kq_v (k' := 1) (sl' := 6) rfl rfl ?_
  rw [ckL_y a5 b5] at hq
  obtain ⟨v, hv, rfl⟩ := in_nI (n := 16) (by decide) a5 b5
  refine V_aload_n 9 0 rfl _ rfl rfl dX10_squall_8 rfl ?_
  refine V_iload_n 10 2 rfl rfl dX10_squall_9 rfl ?_
  refine V_iconst 11 (0) rfl dX10_squall_10 rfl ?_
  refine V_bipush 13 (12) rfl dX10_squall_11 rfl ?_
  refine V_callV (K' := 1) (S' := 6) 16 0 10 3 [.int y, .int 0, .int 12] mkX10_needWithin lkX10_158 (by decide) rfl rfl (by decide) rfl (Nat.le_of_ble_eq_true rfl) (Nat.le_of_ble_eq_true rfl) (Nat.le_of_ble_eq_true rfl) (Nat.le_of_ble_eq_true rfl) rfl rfl dX10_squall_13 rfl (c_X10_needWithin (fun a13 b13 => ?_) (fun a13 => by rw [ckL_n a13] at hq; exact hq _ rfl))
  refine Kq_v (k' := 2) (sl' := 12) rfl rfl ?_
  rw [ckL_y a13 b13] at hq
  obtain ⟨n, hn, rfl⟩ := in_nI (n := 12) (by decide) a13 b13
  refine V_aload_n 17 0 rfl _ rfl rfl dX10_squall_16 rfl ?_
  refine V_iload_n 18 3 rfl rfl dX10_squall_17 rfl ?_
  refine V_iconst 19 (0) rfl dX10_squall_18 rfl ?_
  refine V_iconst 20 (1) rfl dX10_squall_19 rfl ?_
  refine V_callV (K' := 1) (S' := 6) 23 0 10 3 [.int z, .int 0, .int 1] mkX10_needWithin lkX10_158 (by decide) rfl rfl (by decide) rfl (Nat.le_of_ble_eq_true rfl) (Nat.le_of_ble_eq_true rfl) (Nat.le_of_ble_eq_true rfl) (Nat.le_of_ble_eq_true rfl) rfl rfl dX10_squall_20 rfl (c_X10_needWithin (fun a20 b20 => ?_) (fun a20 => by rw [ckL_n a20] at hq; exact hq _ rfl))
  refine Kq_v (k' := 3) (sl' := 18) rfl rfl ?_
  rw [ckL_y a20 b20] at hq
  refine V_lconst 24 1 rfl dX10_squall_23 rfl ?_
  refine V_lstore 26 [(4, .long 1), (0, rf G 0), (1, .int (nI v)), (2, .int (nI n)), (3, .int z)] (by decide) rfl dX10_squall_24 rfl ?_
  refine V_lconst 27 0 rfl dX10_squall_26 rfl ?_
  refine V_lstore 29 [(6, .long 0), (4, .long 1), (0, rf G 0), (1, .int (nI v)), (2, .int (nI n)), (3, .int z)] (by decide) rfl dX10_squall_27 rfl ?_
  refine V_lconst 30 1 rfl dX10_squall_29 rfl ?_
  refine V_lstore 32 [(8, .long 1), (6, .long 0), (4, .long 1), (0, rf G 0), (1, .int (nI v)), (2, .int (nI n)), (3, .int z)] (by decide) rfl dX10_squall_30 rfl ?_
  refine V_iconst 33 (0) rfl dX10_squall_32 rfl ?_
  refine V_istore 35 [(10, .int 0), (8, .long 1), (6, .long 0), (4, .long 1), (0, rf G 0), (1, .int (nI v)), (2, .int (nI n)), (3, .int z)] (by decide) rfl dX10_squall_33 rfl ?_
  rw [nI_clamp (show v < 2 ^ 31 by omega), nI_clamp (show n < 2 ^ 31 by omega)] at hq
  have L : ∀ i, i ≤ n → V G mX10_squall (d + 60) 8 48 3 18 35 [(10, .int (nI i)), (4, .long (lN (sqP v i))), (6, .long (lN (sqQ v i))), (8, .long (lN (sqW i))), (0, rf G 0), (1, .int (nI v)), (2, .int (nI n)), (3, .int z)] [] 103 I R J Q := by
    refine loopd n ?_ (fun i hi ih => ?_)
    · refine V_iload 37 0 rfl dX10_squall_35 rfl ?_
      refine V_iload_n 38 6 rfl rfl dX10_squall_37 rfl ?_
      refine V_icmp_ge 81 41 rfl dX10_squall_38 rfl (fun c38 => ?_) (fun c38 => absurd (Int32.le_refl _) c38)
      refine V_lload 83 1 rfl dX10_squall_81 rfl ?_
      refine V_lload 85 2 rfl dX10_squall_83 rfl ?_
      refine V_ladd 86 dX10_squall_85 rfl ?_
      rw [show (lN (sqP v n)) + (lN (sqQ v n)) = lN (sqP v n + sqQ v n) from lN_add _ _]
      refine V_lload 88 3 rfl dX10_squall_86 rfl ?_
      have wl := sqW_le hn
      have w0 := sqW_0 n
      have g0 := Nat.gcd_pos_of_pos_right (sqP v n + sqQ v n) w0
      have g1 := Nat.gcd_le_right (sqP v n + sqQ v n) w0
      have pq := sq_le hv n
      refine V_callS (K' := 0) (S' := 0) 91 2 [.long (lN (sqP v n + sqQ v n)), .long (lN (sqW n))] mkX10_greatestDivisor lkX10_315 rfl (Nat.le_of_ble_eq_true rfl) (Nat.le_of_ble_eq_true rfl) (Nat.le_of_ble_eq_true rfl) (Nat.le_of_ble_eq_true rfl) rfl rfl dX10_squall_88 rfl (c_X10_gd (by have := sq_le hv n; omega) wl w0 ?_)
      refine Kq_i (k' := 3) (sl' := 18) rfl rfl ?_
      refine V_lstore 93 [(10, .long (lN (Nat.gcd (sqP v n + sqQ v n) (sqW n)))), (4, .long (lN (sqP v n))), (6, .long (lN (sqQ v n))), (8, .long (lN (sqW n))), (0, rf G 0), (1, .int (nI v)), (2, .int (nI n)), (3, .int z)] (by decide) rfl dX10_squall_91 rfl ?_
      refine V_iload_n 94 7 rfl rfl dX10_squall_93 rfl ?_
      refine V_if_ne 108 97 rfl dX10_squall_94 rfl (fun c94 => ?_) (fun c94 => ?_)
      · refine V_lload 110 3 rfl dX10_squall_108 rfl ?_
        refine V_lload 112 0 rfl dX10_squall_110 rfl ?_
        refine V_ldiv 113 (lN_n0 (by omega) g0) dX10_squall_112 rfl ?_
        refine V_ret_l rfl (Nat.le_of_ble_eq_true rfl) (fun h => absurd h (by decide)) (Nat.le_of_ble_eq_true rfl) (by rw [pk_lDiv (by omega) g0 (by omega)]; rw [sqF, if_neg c94] at hq; exact hq) dX10_squall_113
      · refine V_lload 99 1 rfl dX10_squall_97 rfl ?_
        refine V_lload 101 2 rfl dX10_squall_99 rfl ?_
        refine V_ladd 102 dX10_squall_101 rfl ?_
        rw [show (lN (sqP v n)) + (lN (sqQ v n)) = lN (sqP v n + sqQ v n) from lN_add _ _]
        refine V_lload 104 0 rfl dX10_squall_102 rfl ?_
        refine V_ldiv 105 (lN_n0 (by omega) g0) dX10_squall_104 rfl ?_
        refine V_goto 113 rfl dX10_squall_105 ?_
        refine V_ret_l rfl (Nat.le_of_ble_eq_true rfl) (fun h => absurd h (by decide)) (Nat.le_of_ble_eq_true rfl) (by rw [pk_lDiv (by omega) g0 (by omega)]; rw [sqF, if_pos c94] at hq; exact hq) dX10_squall_113
    · refine V_iload 37 0 rfl dX10_squall_35 rfl ?_
      refine V_iload_n 38 6 rfl rfl dX10_squall_37 rfl ?_
      refine V_icmp_ge 81 41 rfl dX10_squall_38 rfl (fun c38 => absurd c38 (nI_ge hi (by omega))) (fun c38 => ?_)
      refine V_lload 43 2 rfl dX10_squall_41 rfl ?_
      refine V_bipush 45 (16) rfl dX10_squall_43 rfl ?_
      refine V_iload_n 46 5 rfl rfl dX10_squall_45 rfl ?_
      refine V_isub 47 dX10_squall_46 rfl ?_
      refine V_rw (show _ = nI (16 - v) from nI_sub (a := 16) (b := v) (by omega)) ?_
      refine V_i2l 48 dX10_squall_47 rfl ?_
      rw [show (nI (16 - v)).toInt64 = lN (16 - v) from nI_l (by omega)]
      refine V_lmul 49 dX10_squall_48 rfl ?_
      rw [show (lN (sqQ v i)) * (lN (16 - v)) = lN (sqQ v i * (16 - v)) from lN_mul _ _]
      refine V_lload 51 1 rfl dX10_squall_49 rfl ?_
      refine V_iload_n 52 5 rfl rfl dX10_squall_51 rfl ?_
      refine V_i2l 53 dX10_squall_52 rfl ?_
      rw [show (nI v).toInt64 = lN v from nI_l (by omega)]
      refine V_lmul 54 dX10_squall_53 rfl ?_
      rw [show (lN (sqP v i)) * (lN v) = lN (sqP v i * v) from lN_mul _ _]
      refine V_ladd 55 dX10_squall_54 rfl ?_
      rw [show (lN (sqQ v i * (16 - v))) + (lN (sqP v i * v)) = lN (sqQ v (i + 1)) from lN_add _ _]
      refine V_lstore 57 [(6, .long (lN (sqQ v (i + 1)))), (10, .int (nI i)), (4, .long (lN (sqP v i))), (8, .long (lN (sqW i))), (0, rf G 0), (1, .int (nI v)), (2, .int (nI n)), (3, .int z)] (by decide) rfl dX10_squall_55 rfl ?_
      refine V_lload 59 2 rfl dX10_squall_57 rfl ?_
      refine V_bipush 61 (16) rfl dX10_squall_59 rfl ?_
      refine V_iload_n 62 5 rfl rfl dX10_squall_61 rfl ?_
      refine V_isub 63 dX10_squall_62 rfl ?_
      refine V_rw (show _ = nI (16 - v) from nI_sub (a := 16) (b := v) (by omega)) ?_
      refine V_i2l 64 dX10_squall_63 rfl ?_
      rw [show (nI (16 - v)).toInt64 = lN (16 - v) from nI_l (by omega)]
      refine V_lmul 65 dX10_squall_64 rfl ?_
      rw [show (lN (sqP v i)) * (lN (16 - v)) = lN (sqP v (i + 1)) from lN_mul _ _]
      refine V_lstore 67 [(4, .long (lN (sqP v (i + 1)))), (6, .long (lN (sqQ v (i + 1)))), (10, .int (nI i)), (8, .long (lN (sqW i))), (0, rf G 0), (1, .int (nI v)), (2, .int (nI n)), (3, .int z)] (by decide) rfl dX10_squall_65 rfl ?_
      refine V_lload 69 3 rfl dX10_squall_67 rfl ?_
      refine V_ldc2 72 (16) rfl ckX10_313 dX10_squall_69 rfl ?_
      refine V_lmul 73 dX10_squall_72 rfl ?_
      rw [show (lN (sqW i)) * 16 = lN (sqW (i + 1)) from lN_mul _ 16]
      refine V_lstore 75 [(8, .long (lN (sqW (i + 1)))), (4, .long (lN (sqP v (i + 1)))), (6, .long (lN (sqQ v (i + 1)))), (10, .int (nI i)), (0, rf G 0), (1, .int (nI v)), (2, .int (nI n)), (3, .int z)] (by decide) rfl dX10_squall_73 rfl ?_
      refine V_iinc 78 3 rfl (nI (i + 1)) [(10, .int (nI (i + 1))), (8, .long (lN (sqW (i + 1)))), (4, .long (lN (sqP v (i + 1)))), (6, .long (lN (sqQ v (i + 1)))), (0, rf G 0), (1, .int (nI v)), (2, .int (nI n)), (3, .int z)] (nI_1 _) (by decide) rfl dX10_squall_75 rfl ?_
      refine V_goto 35 rfl dX10_squall_78 ?_
      exact V_lv [0, 2, 3, 1, 4, 5, 6, 7] rfl (ih)
  exact V_lv [0, 3, 2, 1, 4, 5, 6, 7] rfl (L 0 (Nat.zero_le _))
set_option maxHeartbeats 8000000 in
theorem c_X11_squall {G : Gx} {d : Nat} {I : FI} {R : FR} {J : FJ} {Q : Po} {K : CO} {f : DV → Int32} {D : DV} (hX : RM I R K f D) {x y z : Int32} (hq : HoLM I R J Q 1 (ckL x 0 16 (ckL y 0 12 (ckL z 0 1 (.inl (sqF x.toNatClampNeg y.toNatClampNeg z)))))) : Cc G mX11_squall (d + 60) 0 0 [rf G 69, .int x, .int y, .int z] 103 I R J Q := by
  obtain ⟨I0, hI0⟩ : ∃ I0, I0 = up2 I 69 0 0 := ⟨_, rfl⟩
  have hz := FrM.z hI0
  obtain ⟨hRM, hK, hW, hN, hI, hL, hfR⟩ := hX.fr hz
  have ht : I0 69 0 = 0 := hz.2.1
  have h8 := hW.1
  have hg6 := hW.2.1
  have h6 := hW.2.2.1
  have hWD := hI.1
  have hFl := hI.1.1
  have hB := hI.2.2.1
  have hSt := hI.2.1
  show V _ _ _ _ _ _ _ _ [(0, rf G 69), (1, .int x), (2, .int y), (3, .int z)] [] _ _ _ _ _
  refine V_aload_n 1 0 rfl _ rfl rfl dX11_squall_0 rfl ?_
  refine V_iconst 2 (0) rfl dX11_squall_1 rfl ?_
  refine V_putI 5 69 11 0 flX11_3 rfl rfl rfl (by decide) rfl dX11_squall_2 rfl ?_
  rw [← hI0]
  refine V_aload_n 6 0 rfl _ rfl rfl dX11_squall_5 rfl ?_
  refine V_iload_n 7 1 rfl rfl dX11_squall_6 rfl ?_
  refine V_iconst 8 (0) rfl dX11_squall_7 rfl ?_
  refine V_bipush 10 (16) rfl dX11_squall_8 rfl ?_
  refine V_callS (K' := 0) (S' := 0) 13 3 [.int x, .int 0, .int 16] mkX11_within lkX11_383 rfl (Nat.le_of_ble_eq_true rfl) (Nat.le_of_ble_eq_true rfl) (Nat.le_of_ble_eq_true rfl) (Nat.le_of_ble_eq_true rfl) rfl rfl dX11_squall_10 rfl (c_X11_within (fun a10 b10 => ?_) (fun a10 => ?_))
  · refine Kq_i (k' := 0) (sl' := 0) rfl rfl ?_
    rw [ckL_y a10 b10] at hq
    obtain ⟨v, hv, rfl⟩ := in_nI (n := 16) (by decide) a10 b10
    refine V_if_eq 39 16 rfl dX11_squall_13 rfl (fun c13 => absurd c13 (by decide)) (fun c13 => ?_)
    refine V_iload_n 17 2 rfl rfl dX11_squall_16 rfl ?_
    refine V_iconst 18 (0) rfl dX11_squall_17 rfl ?_
    refine V_bipush 20 (12) rfl dX11_squall_18 rfl ?_
    refine V_callS (K' := 0) (S' := 0) 23 3 [.int y, .int 0, .int 12] mkX11_within lkX11_383 rfl (Nat.le_of_ble_eq_true rfl) (Nat.le_of_ble_eq_true rfl) (Nat.le_of_ble_eq_true rfl) (Nat.le_of_ble_eq_true rfl) rfl rfl dX11_squall_20 rfl (c_X11_within (fun a20 b20 => ?_) (fun a20 => ?_))
    · refine Kq_i (k' := 0) (sl' := 0) rfl rfl ?_
      rw [ckL_y a20 b20] at hq
      obtain ⟨n, hn, rfl⟩ := in_nI (n := 12) (by decide) a20 b20
      refine V_if_eq 39 26 rfl dX11_squall_23 rfl (fun c23 => absurd c23 (by decide)) (fun c23 => ?_)
      refine V_iload_n 27 3 rfl rfl dX11_squall_26 rfl ?_
      refine V_iconst 28 (0) rfl dX11_squall_27 rfl ?_
      refine V_iconst 29 (1) rfl dX11_squall_28 rfl ?_
      refine V_callS (K' := 0) (S' := 0) 32 3 [.int z, .int 0, .int 1] mkX11_within lkX11_383 rfl (Nat.le_of_ble_eq_true rfl) (Nat.le_of_ble_eq_true rfl) (Nat.le_of_ble_eq_true rfl) (Nat.le_of_ble_eq_true rfl) rfl rfl dX11_squall_29 rfl (c_X11_within (fun a29 b29 => ?_) (fun a29 => ?_))
      · refine Kq_i (k' := 0) (sl' := 0) rfl rfl ?_
        rw [ckL_y a29 b29] at hq
        refine V_if_eq 39 35 rfl dX11_squall_32 rfl (fun c32 => absurd c32 (by decide)) (fun c32 => ?_)
        refine V_iconst 36 (1) rfl dX11_squall_35 rfl ?_
        refine V_goto 40 rfl dX11_squall_36 ?_
        refine V_iconst 41 (1) rfl dX11_squall_40 rfl ?_
        refine V_iconst 42 (1) rfl dX11_squall_41 rfl ?_
        refine V_callV (K' := 0) (S' := 0) 45 69 11 3 [.int 1, .int 1, .int 1] mkX11_may lkX11_216 (by decide) rfl rfl (by decide) rfl (Nat.le_of_ble_eq_true rfl) (Nat.le_of_ble_eq_true rfl) (Nat.le_of_ble_eq_true rfl) (Nat.le_of_ble_eq_true rfl) rfl rfl dX11_squall_42 rfl (c_X11_may (cd := 1) (kd := 1) hRM (by decide) (by decide) (by decide) ht (fun _ => ?_) (fun e => absurd e (by decide)))
        refine Kq_i (k' := 0) (sl' := 0) rfl rfl ?_
        refine V_if_ne 50 48 rfl dX11_squall_45 rfl (fun c45 => ?_) (fun c45 => absurd c45 (by decide))
        refine V_lconst 51 1 rfl dX11_squall_50 rfl ?_
        refine V_lstore 53 [(4, .long 1), (0, rf G 69), (1, .int (nI v)), (2, .int (nI n)), (3, .int z)] (by decide) rfl dX11_squall_51 rfl ?_
        refine V_lconst 54 0 rfl dX11_squall_53 rfl ?_
        refine V_lstore 56 [(6, .long 0), (4, .long 1), (0, rf G 69), (1, .int (nI v)), (2, .int (nI n)), (3, .int z)] (by decide) rfl dX11_squall_54 rfl ?_
        refine V_lconst 57 1 rfl dX11_squall_56 rfl ?_
        refine V_lstore 59 [(8, .long 1), (6, .long 0), (4, .long 1), (0, rf G 69), (1, .int (nI v)), (2, .int (nI n)), (3, .int z)] (by decide) rfl dX11_squall_57 rfl ?_
        refine V_iconst 60 (0) rfl dX11_squall_59 rfl ?_
        refine V_istore 62 [(10, .int 0), (8, .long 1), (6, .long 0), (4, .long 1), (0, rf G 69), (1, .int (nI v)), (2, .int (nI n)), (3, .int z)] (by decide) rfl dX11_squall_60 rfl ?_
        rw [nI_clamp (show v < 2 ^ 31 by omega), nI_clamp (show n < 2 ^ 31 by omega)] at hq
        have L : ∀ i, i ≤ n → V G mX11_squall (d + 60) 0 0 0 0 62 [(10, .int (nI i)), (4, .long (lN (sqP v i))), (6, .long (lN (sqQ v i))), (8, .long (lN (sqW i))), (0, rf G 69), (1, .int (nI v)), (2, .int (nI n)), (3, .int z)] [] 103 I0 R J Q := by
          refine loopd n ?_ (fun i hi ih => ?_)
          · refine V_iload 64 0 rfl dX11_squall_62 rfl ?_
            refine V_iload_n 65 6 rfl rfl dX11_squall_64 rfl ?_
            refine V_icmp_ge 108 68 rfl dX11_squall_65 rfl (fun c65 => ?_) (fun c65 => absurd (Int32.le_refl _) c65)
            refine V_lload 110 1 rfl dX11_squall_108 rfl ?_
            refine V_lload 112 2 rfl dX11_squall_110 rfl ?_
            refine V_ladd 113 dX11_squall_112 rfl ?_
            rw [show (lN (sqP v n)) + (lN (sqQ v n)) = lN (sqP v n + sqQ v n) from lN_add _ _]
            refine V_lload 115 3 rfl dX11_squall_113 rfl ?_
            refine V_iload_n 116 7 rfl rfl dX11_squall_115 rfl ?_
            refine V_callS (K' := 0) (S' := 0) 119 3 [.long (lN (sqP v n + sqQ v n)), .long (lN (sqW n)), .int z] mkX11_least lkX11_433 rfl (Nat.le_of_ble_eq_true rfl) (Nat.le_of_ble_eq_true rfl) (Nat.le_of_ble_eq_true rfl) (Nat.le_of_ble_eq_true rfl) rfl rfl dX11_squall_116 rfl (c_X11_least (by have := sq_le hv n; have := sqW_le hn; omega) (sqW_le hn) (sqW_0 n) ?_)
            refine Kq_i (k' := 0) (sl' := 0) rfl rfl ?_
            refine V_ret_l rfl (Nat.le_of_ble_eq_true rfl) (fun h => absurd h (by decide)) (Nat.le_of_ble_eq_true rfl) (hq I0 hz) dX11_squall_119
          · refine V_iload 64 0 rfl dX11_squall_62 rfl ?_
            refine V_iload_n 65 6 rfl rfl dX11_squall_64 rfl ?_
            refine V_icmp_ge 108 68 rfl dX11_squall_65 rfl (fun c65 => absurd c65 (nI_ge hi (by omega))) (fun c65 => ?_)
            refine V_lload 70 2 rfl dX11_squall_68 rfl ?_
            refine V_bipush 72 (16) rfl dX11_squall_70 rfl ?_
            refine V_iload_n 73 5 rfl rfl dX11_squall_72 rfl ?_
            refine V_isub 74 dX11_squall_73 rfl ?_
            refine V_rw (show _ = nI (16 - v) from nI_sub (a := 16) (b := v) (by omega)) ?_
            refine V_i2l 75 dX11_squall_74 rfl ?_
            rw [show (nI (16 - v)).toInt64 = lN (16 - v) from nI_l (by omega)]
            refine V_lmul 76 dX11_squall_75 rfl ?_
            rw [show (lN (sqQ v i)) * (lN (16 - v)) = lN (sqQ v i * (16 - v)) from lN_mul _ _]
            refine V_lload 78 1 rfl dX11_squall_76 rfl ?_
            refine V_iload_n 79 5 rfl rfl dX11_squall_78 rfl ?_
            refine V_i2l 80 dX11_squall_79 rfl ?_
            rw [show (nI v).toInt64 = lN v from nI_l (by omega)]
            refine V_lmul 81 dX11_squall_80 rfl ?_
            rw [show (lN (sqP v i)) * (lN v) = lN (sqP v i * v) from lN_mul _ _]
            refine V_ladd 82 dX11_squall_81 rfl ?_
            rw [show (lN (sqQ v i * (16 - v))) + (lN (sqP v i * v)) = lN (sqQ v (i + 1)) from lN_add _ _]
            refine V_lstore 84 [(6, .long (lN (sqQ v (i + 1)))), (10, .int (nI i)), (4, .long (lN (sqP v i))), (8, .long (lN (sqW i))), (0, rf G 69), (1, .int (nI v)), (2, .int (nI n)), (3, .int z)] (by decide) rfl dX11_squall_82 rfl ?_
            refine V_lload 86 2 rfl dX11_squall_84 rfl ?_
            refine V_bipush 88 (16) rfl dX11_squall_86 rfl ?_
            refine V_iload_n 89 5 rfl rfl dX11_squall_88 rfl ?_
            refine V_isub 90 dX11_squall_89 rfl ?_
            refine V_rw (show _ = nI (16 - v) from nI_sub (a := 16) (b := v) (by omega)) ?_
            refine V_i2l 91 dX11_squall_90 rfl ?_
            rw [show (nI (16 - v)).toInt64 = lN (16 - v) from nI_l (by omega)]
            refine V_lmul 92 dX11_squall_91 rfl ?_
            rw [show (lN (sqP v i)) * (lN (16 - v)) = lN (sqP v (i + 1)) from lN_mul _ _]
            refine V_lstore 94 [(4, .long (lN (sqP v (i + 1)))), (6, .long (lN (sqQ v (i + 1)))), (10, .int (nI i)), (8, .long (lN (sqW i))), (0, rf G 69), (1, .int (nI v)), (2, .int (nI n)), (3, .int z)] (by decide) rfl dX11_squall_92 rfl ?_
            refine V_lload 96 3 rfl dX11_squall_94 rfl ?_
            refine V_ldc2 99 (16) rfl ckX11_431 dX11_squall_96 rfl ?_
            refine V_lmul 100 dX11_squall_99 rfl ?_
            rw [show (lN (sqW i)) * 16 = lN (sqW (i + 1)) from lN_mul _ 16]
            refine V_lstore 102 [(8, .long (lN (sqW (i + 1)))), (4, .long (lN (sqP v (i + 1)))), (6, .long (lN (sqQ v (i + 1)))), (10, .int (nI i)), (0, rf G 69), (1, .int (nI v)), (2, .int (nI n)), (3, .int z)] (by decide) rfl dX11_squall_100 rfl ?_
            refine V_iinc 105 3 rfl (nI (i + 1)) [(10, .int (nI (i + 1))), (8, .long (lN (sqW (i + 1)))), (4, .long (lN (sqP v (i + 1)))), (6, .long (lN (sqQ v (i + 1)))), (0, rf G 69), (1, .int (nI v)), (2, .int (nI n)), (3, .int z)] (nI_1 _) (by decide) rfl dX11_squall_102 rfl ?_
            refine V_goto 62 rfl dX11_squall_105 ?_
            exact V_lv [0, 2, 3, 1, 4, 5, 6, 7] rfl (ih)
        exact V_lv [0, 3, 2, 1, 4, 5, 6, 7] rfl (L 0 (Nat.zero_le _))
      · refine Kq_i (k' := 0) (sl' := 0) rfl rfl ?_
        rw [ckL_n a29] at hq
        refine V_if_eq 39 35 rfl dX11_squall_32 rfl (fun c32 => ?_) (fun c32 => absurd c32 (by decide))
        refine V_iconst 40 (0) rfl dX11_squall_39 rfl ?_
        refine V_iconst 41 (1) rfl dX11_squall_40 rfl ?_
        refine V_iconst 42 (1) rfl dX11_squall_41 rfl ?_
        refine V_callV (K' := 0) (S' := 0) 45 69 11 3 [.int 0, .int 1, .int 1] mkX11_may lkX11_216 (by decide) rfl rfl (by decide) rfl (Nat.le_of_ble_eq_true rfl) (Nat.le_of_ble_eq_true rfl) (Nat.le_of_ble_eq_true rfl) (Nat.le_of_ble_eq_true rfl) rfl rfl dX11_squall_42 rfl (c_X11_may (cd := 1) (kd := 1) hRM (by decide) (by decide) (by decide) ht (fun e => absurd rfl e) (fun _ => ?_))
        refine Kq_i (k' := 0) (sl' := 0) rfl rfl ?_
        refine V_if_ne 50 48 rfl dX11_squall_45 rfl (fun c45 => absurd c45 (by decide)) (fun c45 => ?_)
        refine V_lconst 49 0 rfl dX11_squall_48 rfl ?_
        refine V_ret_l rfl (Nat.le_of_ble_eq_true rfl) (fun h => absurd h (by decide)) (Nat.le_of_ble_eq_true rfl) (hq.x hI0 rfl) dX11_squall_49
    · refine Kq_i (k' := 0) (sl' := 0) rfl rfl ?_
      rw [ckL_n a20] at hq
      refine V_if_eq 39 26 rfl dX11_squall_23 rfl (fun c23 => ?_) (fun c23 => absurd c23 (by decide))
      refine V_iconst 40 (0) rfl dX11_squall_39 rfl ?_
      refine V_iconst 41 (1) rfl dX11_squall_40 rfl ?_
      refine V_iconst 42 (1) rfl dX11_squall_41 rfl ?_
      refine V_callV (K' := 0) (S' := 0) 45 69 11 3 [.int 0, .int 1, .int 1] mkX11_may lkX11_216 (by decide) rfl rfl (by decide) rfl (Nat.le_of_ble_eq_true rfl) (Nat.le_of_ble_eq_true rfl) (Nat.le_of_ble_eq_true rfl) (Nat.le_of_ble_eq_true rfl) rfl rfl dX11_squall_42 rfl (c_X11_may (cd := 1) (kd := 1) hRM (by decide) (by decide) (by decide) ht (fun e => absurd rfl e) (fun _ => ?_))
      refine Kq_i (k' := 0) (sl' := 0) rfl rfl ?_
      refine V_if_ne 50 48 rfl dX11_squall_45 rfl (fun c45 => absurd c45 (by decide)) (fun c45 => ?_)
      refine V_lconst 49 0 rfl dX11_squall_48 rfl ?_
      refine V_ret_l rfl (Nat.le_of_ble_eq_true rfl) (fun h => absurd h (by decide)) (Nat.le_of_ble_eq_true rfl) (hq.x hI0 rfl) dX11_squall_49
  · refine Kq_i (k' := 0) (sl' := 0) rfl rfl ?_
    rw [ckL_n a10] at hq
    refine V_if_eq 39 16 rfl dX11_squall_13 rfl (fun c13 => ?_) (fun c13 => absurd c13 (by decide))
    refine V_iconst 40 (0) rfl dX11_squall_39 rfl ?_
    refine V_iconst 41 (1) rfl dX11_squall_40 rfl ?_
    refine V_iconst 42 (1) rfl dX11_squall_41 rfl ?_
    refine V_callV (K' := 0) (S' := 0) 45 69 11 3 [.int 0, .int 1, .int 1] mkX11_may lkX11_216 (by decide) rfl rfl (by decide) rfl (Nat.le_of_ble_eq_true rfl) (Nat.le_of_ble_eq_true rfl) (Nat.le_of_ble_eq_true rfl) (Nat.le_of_ble_eq_true rfl) rfl rfl dX11_squall_42 rfl (c_X11_may (cd := 1) (kd := 1) hRM (by decide) (by decide) (by decide) ht (fun e => absurd rfl e) (fun _ => ?_))
    refine Kq_i (k' := 0) (sl' := 0) rfl rfl ?_
    refine V_if_ne 50 48 rfl dX11_squall_45 rfl (fun c45 => absurd c45 (by decide)) (fun c45 => ?_)
    refine V_lconst 49 0 rfl dX11_squall_48 rfl ?_
    refine V_ret_l rfl (Nat.le_of_ble_eq_true rfl) (fun h => absurd h (by decide)) (Nat.le_of_ble_eq_true rfl) (hq.x hI0 rfl) dX11_squall_49
