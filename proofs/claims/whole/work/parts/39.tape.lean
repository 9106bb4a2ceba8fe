/-! ===== the text: tokens ===== -/
def dg (x : Nat) : Bool := decide (48 ≤ x ∧ x ≤ 57)
def le_ (x : Nat) : Bool := decide (97 ≤ x ∧ x ≤ 122)
def scF (P : Nat → Bool) (t : Nat → Nat) (z : Nat) : Nat → Nat → Nat
  | 0, a => a
  | k + 1, a => if a < z ∧ P (t a) = true then scF P t z k (a + 1) else a
/-- the end of a row of such bytes -/
def sc (P : Nat → Bool) (t : Nat → Nat) (z a : Nat) : Nat := scF P t z (z - a) a
theorem sc_go {P : Nat → Bool} {t : Nat → Nat} {z a : Nat} (h : a < z) (h2 : P (t a) = true) : sc P t z a = sc P t z (a + 1) := by
  unfold sc
  rw [show z - a = (z - (a + 1)) + 1 by omega]
  simp [scF, h, h2]
theorem sc_st {P : Nat → Bool} {t : Nat → Nat} {z a : Nat} (h : ¬ (a < z ∧ P (t a) = true)) : sc P t z a = a := by
  unfold sc
  cases h3 : z - a with
  | zero => rfl
  | succ k => simp only [scF]; rw [if_neg h]
theorem sc_le {P : Nat → Bool} {t : Nat → Nat} {z : Nat} : ∀ (f a : Nat), z - a ≤ f → a ≤ z → a ≤ sc P t z a ∧ sc P t z a ≤ z ∧ ∀ j, a ≤ j → j < sc P t z a → P (t j) = true := by
  intro f
  induction f with
  | zero => intro a h h2; rw [sc_st (by omega)]; exact ⟨Nat.le_refl _, h2, fun j h3 h4 => absurd h4 (by omega)⟩
  | succ f ih =>
    intro a h h2
    by_cases hc : a < z ∧ P (t a) = true
    · rw [sc_go hc.1 hc.2]
      obtain ⟨i1, i2, i3⟩ := ih (a + 1) (by omega) (by omega)
      refine ⟨by omega, i2, fun j h3 h4 => ?_⟩
      by_cases e : j = a
      · subst e; exact hc.2
      · exact i3 j (by omega) h4
    · rw [sc_st hc]; exact ⟨Nat.le_refl _, h2, fun j h3 h4 => absurd h4 (by omega)⟩
theorem sc_z {P : Nat → Bool} {t : Nat → Nat} {z a : Nat} (h : a ≤ z) : a ≤ sc P t z a ∧ sc P t z a ≤ z := ⟨(sc_le (z - a) a (Nat.le_refl _) h).1, (sc_le (z - a) a (Nat.le_refl _) h).2.1⟩
theorem sc_lt {P : Nat → Bool} {t : Nat → Nat} {z a : Nat} (h : a < z) (h2 : P (t a) = true) : a < sc P t z a := by
  rw [sc_go h h2]
  have := (sc_z (P := P) (t := t) (show a + 1 ≤ z by omega)).1
  omega
theorem sk_z {t : Nat → Nat} {z a : Nat} (h : a ≤ z) : a ≤ sk t z a ∧ sk t z a ≤ z ∧ ¬ (sk t z a < z ∧ t (sk t z a) = 32) := sk_le (z - a) a (Nat.le_refl _) h
theorem sk_sk {t : Nat → Nat} {z a : Nat} (h : a ≤ z) : sk t z (sk t z a) = sk t z a := sk_st (sk_z h).2.2
/-- a token's kind: 0 the end, 1 number, 2 word, 3 sign; its end; a number's value -/
def kdF (t : Nat → Nat) (z p : Nat) : Nat := if z ≤ p then 0 else if dg (t p) = true then 1 else if le_ (t p) = true then 2 else 3
def enF (t : Nat → Nat) (z p : Nat) : Nat := if z ≤ p then p else if dg (t p) = true then sc dg t z p else if le_ (t p) = true then sc le_ t z p else p + 1
def nvF (t : Nat → Nat) : Nat → Nat → Nat → Nat
  | 0, _, v => v
  | k + 1, a, v => nvF t k (a + 1) (if v * 10 + t a - 48 < 100000 then v * 10 + t a - 48 else 100000)
def nuF (t : Nat → Nat) (z p : Nat) : Nat := if z ≤ p then 0 else if dg (t p) = true then nvF t (sc dg t z p - p) p 0 else 0
def nx (t : Nat → Nat) (z p : Nat) : Nat := sk t z (enF t z p)
theorem enF_z {t : Nat → Nat} {z p : Nat} (h : p ≤ z) : p ≤ enF t z p ∧ enF t z p ≤ z ∧ (p < z → p < enF t z p) := by
  unfold enF
  by_cases c : z ≤ p
  · rw [if_pos c]; omega
  · rw [if_neg c]
    by_cases c1 : dg (t p) = true
    · rw [if_pos c1]
      have a := sc_z (P := dg) (t := t) h
      have b := sc_lt (P := dg) (t := t) (show p < z by omega) c1
      omega
    · rw [if_neg c1]
      by_cases c2 : le_ (t p) = true
      · rw [if_pos c2]
        have a := sc_z (P := le_) (t := t) h
        have b := sc_lt (P := le_) (t := t) (show p < z by omega) c2
        omega
      · rw [if_neg c2]; omega
theorem nx_z {t : Nat → Nat} {z p : Nat} (h : p ≤ z) : p ≤ nx t z p ∧ nx t z p ≤ z ∧ (p < z → p < nx t z p) := by
  obtain ⟨a, b, c⟩ := enF_z (t := t) h
  obtain ⟨e, f, -⟩ := sk_z (t := t) b
  unfold nx
  refine ⟨by omega, f, fun q => ?_⟩
  have := c q
  omega
theorem nx_sk {t : Nat → Nat} {z p : Nat} (h : p ≤ z) : sk t z (nx t z p) = nx t z p := sk_sk (enF_z h).2.1
theorem nvF_le (t : Nat → Nat) : ∀ k a v, v ≤ 100000 → nvF t k a v ≤ 100000 := by
  intro k
  induction k with
  | zero => intro a v h; exact h
  | succ k ih => intro a v h; rw [nvF]; apply ih; split <;> omega
theorem nuF_le (t : Nat → Nat) (z p : Nat) : nuF t z p ≤ 100000 := by
  unfold nuF
  split
  · omega
  · split
    · exact nvF_le t _ _ _ (by omega)
    · omega
/-- bytes as the class has them -/
def bI (x : Nat) : Int32 := (nI x).toInt8.toInt32
theorem bI_n : ∀ x, x < 128 → bI x = nI x := by decide +kernel
theorem bI_hi : ∀ x, x < 256 → 128 ≤ x → bI x < 0 := by decide +kernel
theorem bI_c {x c : Nat} (hx : x < 256) (hc : c < 128) : bI x = nI c ↔ x = c := by
  by_cases h : x < 128
  · rw [bI_n x h]; exact nI_eq (by omega) (by omega)
  · refine ⟨fun e => ?_, fun e => by omega⟩
    have := bI_hi x hx (by omega)
    rw [e] at this
    exact absurd this (nI_pos (by omega))
theorem bI_dg {x : Nat} (hx : x < 256) : dg x = true ↔ ((48 : Int32) ≤ bI x ∧ bI x ≤ 57) := by
  unfold dg
  rw [decide_eq_true_iff]
  by_cases h : x < 128
  · rw [bI_n x h, show (48 : Int32) = nI 48 from rfl, show (57 : Int32) = nI 57 from rfl, nI_leI (by omega) (by omega), nI_leI (by omega) (by omega)]
  · refine ⟨fun e => by omega, fun e => ?_⟩
    exact absurd (Int32.lt_of_le_of_lt e.1 (bI_hi x hx (by omega))) (by decide)
theorem bI_le {x : Nat} (hx : x < 256) : le_ x = true ↔ ((97 : Int32) ≤ bI x ∧ bI x ≤ 122) := by
  unfold le_
  rw [decide_eq_true_iff]
  by_cases h : x < 128
  · rw [bI_n x h, show (97 : Int32) = nI 97 from rfl, show (122 : Int32) = nI 122 from rfl, nI_leI (by omega) (by omega), nI_leI (by omega) (by omega)]
  · refine ⟨fun e => by omega, fun e => ?_⟩
    exact absurd (Int32.lt_of_le_of_lt e.1 (bI_hi x hx (by omega))) (by decide)
theorem dg_iff {x : Nat} : dg x = true ↔ 48 ≤ x ∧ x ≤ 57 := decide_eq_true_iff
theorem le_iff {x : Nat} : le_ x = true ↔ 97 ≤ x ∧ x ≤ 122 := decide_eq_true_iff
/-- the class holds the text -/
def TxC (I : FI) (t : Nat → Nat) (z : Nat) : Prop := I 1 2 = nI z ∧ z ≤ 600 ∧ (∀ j, j < 600 → I 2 j = bI (t j)) ∧ ∀ j, t j < 256
/-- the class's reader: start, stop, kind, number, the FAULT's code and place -/
def tr (I : FI) (s e k n : Nat) (fc fp : Int32) : FI := fun o => if o = 1 then (fun j => if j = 3 then nI s else if j = 4 then nI e else if j = 5 then nI k else if j = 6 then nI n else if j = 7 then fc else if j = 8 then fp else I 1 j) else I o
theorem tr_3 {I : FI} {s e k n x : Nat} {fc fp : Int32} : up2 (tr I s e k n fc fp) 1 3 (nI x) = tr I x e k n fc fp := by
  funext o j
  by_cases h : o = 1
  · subst h
    rcases j with _ | _ | _ | _ | _ | _ | _ | _ | _ | j <;> simp [up2, upd, tr]
  · simp [up2, tr, h]
theorem tr_4 {I : FI} {s e k n x : Nat} {fc fp : Int32} : up2 (tr I s e k n fc fp) 1 4 (nI x) = tr I s x k n fc fp := by
  funext o j
  by_cases h : o = 1
  · subst h
    rcases j with _ | _ | _ | _ | _ | _ | _ | _ | _ | j <;> simp [up2, upd, tr]
  · simp [up2, tr, h]
theorem tr_5 {I : FI} {s e k n x : Nat} {fc fp : Int32} : up2 (tr I s e k n fc fp) 1 5 (nI x) = tr I s e x n fc fp := by
  funext o j
  by_cases h : o = 1
  · subst h
    rcases j with _ | _ | _ | _ | _ | _ | _ | _ | _ | j <;> simp [up2, upd, tr]
  · simp [up2, tr, h]
theorem tr_6 {I : FI} {s e k n x : Nat} {fc fp : Int32} : up2 (tr I s e k n fc fp) 1 6 (nI x) = tr I s e k x fc fp := by
  funext o j
  by_cases h : o = 1
  · subst h
    rcases j with _ | _ | _ | _ | _ | _ | _ | _ | _ | j <;> simp [up2, upd, tr]
  · simp [up2, tr, h]
theorem tr_7 {I : FI} {s e k n : Nat} {fc fp x : Int32} : up2 (tr I s e k n fc fp) 1 7 x = tr I s e k n x fp := by
  funext o j
  by_cases h : o = 1
  · subst h
    rcases j with _ | _ | _ | _ | _ | _ | _ | _ | _ | j <;> simp [up2, upd, tr]
  · simp [up2, tr, h]
theorem tr_8 {I : FI} {s e k n : Nat} {fc fp x : Int32} : up2 (tr I s e k n fc fp) 1 8 x = tr I s e k n fc x := by
  funext o j
  by_cases h : o = 1
  · subst h
    rcases j with _ | _ | _ | _ | _ | _ | _ | _ | _ | j <;> simp [up2, upd, tr]
  · simp [up2, tr, h]
theorem tr_n {I : FI} {s e k n a : Nat} {fc fp : Int32} (h : a ≠ 1) : tr I s e k n fc fp a = I a := if_neg h
theorem tr_up {I : FI} {s e k n a j : Nat} {fc fp v : Int32} (h : a ≠ 1) : up2 (tr I s e k n fc fp) a j v = tr (up2 I a j v) s e k n fc fp := by
  funext o q
  by_cases h1 : o = 1
  · subst h1
    have h2 : ¬ (1 : Nat) = a := fun e => h e.symm
    simp [up2, tr, h2]
  · by_cases h2 : o = a
    · subst h2; simp [up2, tr, h1]
    · simp [up2, tr, h1, h2]
/-- at the token that begins at p -/
def tp (t : Nat → Nat) (z : Nat) (I : FI) (p : Nat) (fc fp : Int32) : FI := tr I p (enF t z p) (kdF t z p) (nuF t z p) fc fp
theorem TxC.tr {I : FI} {t : Nat → Nat} {z s e k n : Nat} {fc fp : Int32} (h : TxC I t z) : TxC (tr I s e k n fc fp) t z := ⟨h.1, h.2.1, fun j hj => by rw [tr_n (by decide)]; exact h.2.2.1 j hj, h.2.2.2⟩
theorem TxC.up {I : FI} {t : Nat → Nat} {z a j : Nat} {v : Int32} (h : TxC I t z) (h1 : a ≠ 1) (h2 : a ≠ 2) : TxC (up2 I a j v) t z := ⟨by rw [up2_n _ _ _ (Ne.symm h1)]; exact h.1, h.2.1, fun j hj => by rw [up2_n _ _ _ (Ne.symm h2)]; exact h.2.2.1 j hj, h.2.2.2⟩
theorem TxC.fr {I I' : FI} {t : Nat → Nat} {z : Nat} (h : TxC I t z) (h1 : I' 1 = I 1) (h2 : I' 2 = I 2) : TxC I' t z := ⟨by rw [h1]; exact h.1, h.2.1, fun j hj => by rw [h2]; exact h.2.2.1 j hj, h.2.2.2⟩
theorem tp_up {t : Nat → Nat} {z : Nat} {I : FI} {p a j : Nat} {fc fp v : Int32} (h : a ≠ 1) : up2 (tp t z I p fc fp) a j v = tp t z (up2 I a j v) p fc fp := tr_up h
theorem tp_n {t : Nat → Nat} {z : Nat} {I : FI} {p a : Nat} {fc fp : Int32} (h : a ≠ 1) : tp t z I p fc fp a = I a := tr_n h
theorem c_X8_isDigit {G : Gx} {d : Nat} {I : FI} {R : FR} {J : FJ} {Q : Po} {x : Nat} (hx : x < 256) (h1 : dg x = true → Q (.inl (some (.int 1))) 103 I R J) (h0 : ¬ dg x = true → Q (.inl (some (.int 0))) 103 I R J) : Cc G mX8_isDigit d 0 0 [.int (bI x)] 103 I R J Q := by
  show V _ _ _ _ _ _ _ _ [(0, .int (bI x))] [] _ _ _ _ _
  refine V_iload_n 1 0 rfl rfl dX8_isDigit_0 rfl ?_
  refine V_bipush 3 (48) rfl dX8_isDigit_1 rfl ?_
  refine V_icmp_lt 16 6 rfl dX8_isDigit_3 rfl (fun c3 => ?_) (fun c3 => ?_)
  · refine V_iconst 17 (0) rfl dX8_isDigit_16 rfl ?_
    refine V_ret_i rfl (by first | rfl | decide) (Nat.le_of_ble_eq_true rfl) (fun h => absurd h (by decide)) (Nat.le_of_ble_eq_true rfl) (h0 (fun q => by have q2 := (bI_dg hx).mp q; first | exact absurd c3 (Int32.not_lt.mpr q2.1) | exact absurd c9 (Int32.not_lt.mpr q2.2))) dX8_isDigit_17
  · refine V_iload_n 7 0 rfl rfl dX8_isDigit_6 rfl ?_
    refine V_bipush 9 (57) rfl dX8_isDigit_7 rfl ?_
    refine V_icmp_gt 16 12 rfl dX8_isDigit_9 rfl (fun c9 => ?_) (fun c9 => ?_)
    · refine V_iconst 17 (0) rfl dX8_isDigit_16 rfl ?_
      refine V_ret_i rfl (by first | rfl | decide) (Nat.le_of_ble_eq_true rfl) (fun h => absurd h (by decide)) (Nat.le_of_ble_eq_true rfl) (h0 (fun q => by have q2 := (bI_dg hx).mp q; first | exact absurd c3 (Int32.not_lt.mpr q2.1) | exact absurd c9 (Int32.not_lt.mpr q2.2))) dX8_isDigit_17
    · refine V_iconst 13 (1) rfl dX8_isDigit_12 rfl ?_
      refine V_goto 17 rfl dX8_isDigit_13 ?_
      refine V_ret_i rfl (by first | rfl | decide) (Nat.le_of_ble_eq_true rfl) (fun h => absurd h (by decide)) (Nat.le_of_ble_eq_true rfl) (h1 ((bI_dg hx).mpr ⟨Int32.not_lt.mp c3, Int32.not_lt.mp c9⟩)) dX8_isDigit_17
theorem c_X8_isLetter {G : Gx} {d : Nat} {I : FI} {R : FR} {J : FJ} {Q : Po} {x : Nat} (hx : x < 256) (h1 : le_ x = true → Q (.inl (some (.int 1))) 103 I R J) (h0 : ¬ le_ x = true → Q (.inl (some (.int 0))) 103 I R J) : Cc G mX8_isLetter d 0 0 [.int (bI x)] 103 I R J Q := by
  show V _ _ _ _ _ _ _ _ [(0, .int (bI x))] [] _ _ _ _ _
  refine V_iload_n 1 0 rfl rfl dX8_isLetter_0 rfl ?_
  refine V_bipush 3 (97) rfl dX8_isLetter_1 rfl ?_
  refine V_icmp_lt 16 6 rfl dX8_isLetter_3 rfl (fun c3 => ?_) (fun c3 => ?_)
  · refine V_iconst 17 (0) rfl dX8_isLetter_16 rfl ?_
    refine V_ret_i rfl (by first | rfl | decide) (Nat.le_of_ble_eq_true rfl) (fun h => absurd h (by decide)) (Nat.le_of_ble_eq_true rfl) (h0 (fun q => by have q2 := (bI_le hx).mp q; first | exact absurd c3 (Int32.not_lt.mpr q2.1) | exact absurd c9 (Int32.not_lt.mpr q2.2))) dX8_isLetter_17
  · refine V_iload_n 7 0 rfl rfl dX8_isLetter_6 rfl ?_
    refine V_bipush 9 (122) rfl dX8_isLetter_7 rfl ?_
    refine V_icmp_gt 16 12 rfl dX8_isLetter_9 rfl (fun c9 => ?_) (fun c9 => ?_)
    · refine V_iconst 17 (0) rfl dX8_isLetter_16 rfl ?_
      refine V_ret_i rfl (by first | rfl | decide) (Nat.le_of_ble_eq_true rfl) (fun h => absurd h (by decide)) (Nat.le_of_ble_eq_true rfl) (h0 (fun q => by have q2 := (bI_le hx).mp q; first | exact absurd c3 (Int32.not_lt.mpr q2.1) | exact absurd c9 (Int32.not_lt.mpr q2.2))) dX8_isLetter_17
    · refine V_iconst 13 (1) rfl dX8_isLetter_12 rfl ?_
      refine V_goto 17 rfl dX8_isLetter_13 ?_
      refine V_ret_i rfl (by first | rfl | decide) (Nat.le_of_ble_eq_true rfl) (fun h => absurd h (by decide)) (Nat.le_of_ble_eq_true rfl) (h1 ((bI_le hx).mpr ⟨Int32.not_lt.mp c3, Int32.not_lt.mp c9⟩)) dX8_isLetter_17
set_option maxHeartbeats 4000000 in
theorem c_X8_passLetters {G : Gx} {d : Nat} {I : FI} {R : FR} {J : FJ} {Q : Po} (hRK : RK R) {t : Nat → Nat} {z : Nat} (hT : TxC I t z) {s k n : Nat} {fc fp : Int32} {a : Nat} (ha : a ≤ z) (hq : Q (.inl none) 103 (tr I s (sc le_ t z a) k n fc fp) R J) : Cc G mX8_passLetters (d + 1) 0 0 [rf G 1] 103 (tr I s a k n fc fp) R J Q := by
  have h6 := hT.2.1
  have key : ∀ f a, z - a ≤ f → a ≤ z → Q (.inl none) 103 (tr I s (sc le_ t z a) k n fc fp) R J → V G mX8_passLetters (d + 1) 0 0 0 0 0 [(0, rf G 1)] [] 103 (tr I s a k n fc fp) R J Q := by
    intro f
    induction f with
    | zero =>
      intro a hf ha hq
      have c_l : ¬ a < z := by omega
      rw [sc_st (fun h => c_l h.1)] at hq
      refine V_aload_n 1 0 rfl _ rfl rfl dX8_passLetters_0 rfl ?_
      refine V_getI 4 1 8 4 (nI a) rfl flX8_34 rfl rfl rfl (by decide) dX8_passLetters_1 rfl ?_
      refine V_aload_n 5 0 rfl _ rfl rfl dX8_passLetters_4 rfl ?_
      refine V_getI 8 1 8 2 (nI z) hT.1 flX8_31 rfl rfl rfl (by decide) dX8_passLetters_5 rfl ?_
      refine V_icmp_ge 39 11 rfl dX8_passLetters_8 rfl (fun c8 => ?_) (fun c8 => absurd (nI_le (show z ≤ a by omega) (by omega)) c8)
      refine V_ret_v rfl (Nat.le_of_ble_eq_true rfl) (fun h => absurd h (by decide)) (Nat.le_of_ble_eq_true rfl) (hq) dX8_passLetters_39
    | succ f ih =>
      intro a hf ha hq
      by_cases c_l : a < z
      · refine V_aload_n 1 0 rfl _ rfl rfl dX8_passLetters_0 rfl ?_
        refine V_getI 4 1 8 4 (nI a) rfl flX8_34 rfl rfl rfl (by decide) dX8_passLetters_1 rfl ?_
        refine V_aload_n 5 0 rfl _ rfl rfl dX8_passLetters_4 rfl ?_
        refine V_getI 8 1 8 2 (nI z) hT.1 flX8_31 rfl rfl rfl (by decide) dX8_passLetters_5 rfl ?_
        refine V_icmp_ge 39 11 rfl dX8_passLetters_8 rfl (fun c8 => absurd c8 (nI_ge c_l (by omega))) (fun c8 => ?_)
        refine V_aload_n 12 0 rfl _ rfl rfl dX8_passLetters_11 rfl ?_
        refine V_getR 15 1 8 0 2 (hRK 1 0 (by decide) (by decide) (by decide)) flX8_9 rfl rfl rfl (by decide) dX8_passLetters_12 rfl ?_
        refine V_aload_n 16 0 rfl _ rfl rfl dX8_passLetters_15 rfl ?_
        refine V_getI 19 1 8 4 (nI a) rfl flX8_34 rfl rfl rfl (by decide) dX8_passLetters_16 rfl ?_
        refine V_baldN 20 2 600 a (bI (t a)) (hT.tr.2.2.1 _ (by omega)) (by omega) (by decide) rfl (by decide) dX8_passLetters_19 rfl ?_
        refine V_callS (K' := 0) (S' := 0) 23 1 [.int (bI (t a))] mkX8_isLetter lkX8_59 rfl (Nat.le_of_ble_eq_true rfl) (Nat.le_of_ble_eq_true rfl) (Nat.le_of_ble_eq_true rfl) (Nat.le_of_ble_eq_true rfl) rfl rfl dX8_passLetters_20 rfl (c_X8_isLetter (hT.2.2.2 a) (fun e1 => ?_) (fun e1 => ?_))
        · refine Kq_i (k' := 0) (sl' := 0) rfl rfl ?_
          rw [sc_go c_l e1] at hq
          refine V_if_eq 39 26 rfl dX8_passLetters_23 rfl (fun c23 => absurd c23 (by decide)) (fun c23 => ?_)
          refine V_aload_n 27 0 rfl _ rfl rfl dX8_passLetters_26 rfl ?_
          refine V_dup 28 rfl dX8_passLetters_27 rfl ?_
          refine V_getI 31 1 8 4 (nI a) rfl flX8_34 rfl rfl rfl (by decide) dX8_passLetters_28 rfl ?_
          refine V_iconst 32 (1) rfl dX8_passLetters_31 rfl ?_
          refine V_iadd 33 dX8_passLetters_32 rfl ?_
          refine V_rw (nI_add a 1) ?_
          refine V_putI 36 1 8 4 flX8_34 rfl rfl rfl (by decide) rfl dX8_passLetters_33 rfl ?_
          rw [tr_4]
          refine V_goto 0 rfl dX8_passLetters_36 ?_
          exact ih (a + 1) (by omega) (by omega) hq
        · refine Kq_i (k' := 0) (sl' := 0) rfl rfl ?_
          rw [sc_st (fun h => e1 h.2)] at hq
          refine V_if_eq 39 26 rfl dX8_passLetters_23 rfl (fun c23 => ?_) (fun c23 => absurd c23 (by decide))
          refine V_ret_v rfl (Nat.le_of_ble_eq_true rfl) (fun h => absurd h (by decide)) (Nat.le_of_ble_eq_true rfl) (hq) dX8_passLetters_39
      · rw [sc_st (fun h => c_l h.1)] at hq
        refine V_aload_n 1 0 rfl _ rfl rfl dX8_passLetters_0 rfl ?_
        refine V_getI 4 1 8 4 (nI a) rfl flX8_34 rfl rfl rfl (by decide) dX8_passLetters_1 rfl ?_
        refine V_aload_n 5 0 rfl _ rfl rfl dX8_passLetters_4 rfl ?_
        refine V_getI 8 1 8 2 (nI z) hT.1 flX8_31 rfl rfl rfl (by decide) dX8_passLetters_5 rfl ?_
        refine V_icmp_ge 39 11 rfl dX8_passLetters_8 rfl (fun c8 => ?_) (fun c8 => absurd (nI_le (show z ≤ a by omega) (by omega)) c8)
        refine V_ret_v rfl (Nat.le_of_ble_eq_true rfl) (fun h => absurd h (by decide)) (Nat.le_of_ble_eq_true rfl) (hq) dX8_passLetters_39
  exact key (z - a) a (Nat.le_refl _) ha hq
theorem nv_s {v x : Nat} (h1 : 48 ≤ x) (h2 : x ≤ 57) (hv : v ≤ 100000) : (if nI v * 10 + bI x - 48 < (100000 : Int32) then nI v * 10 + bI x - 48 else 100000) = nI (if v * 10 + x - 48 < 100000 then v * 10 + x - 48 else 100000) := by
  have e : nI v * 10 + bI x - 48 = nI (v * 10 + x - 48) := by
    rw [bI_n x (by omega), show (10 : Int32) = nI 10 from rfl, pk_mul, nI_add, show (48 : Int32) = nI 48 from rfl, pk_sub (by omega)]
  rw [e]
  by_cases c : v * 10 + x - 48 < 100000
  · rw [if_pos c, if_pos (show nI (v * 10 + x - 48) < 100000 from nI_lt (b := 100000) c (by decide))]
  · rw [if_neg c, if_neg (show ¬ nI (v * 10 + x - 48) < 100000 from nI_nlt (b := 100000) (by omega) (by omega))]; rfl
theorem nvF_go {t : Nat → Nat} {z a v : Nat} (h : a < z) (h1 : dg (t a) = true) : nvF t (sc dg t z a - a) a v = nvF t (sc dg t z (a + 1) - (a + 1)) (a + 1) (if v * 10 + t a - 48 < 100000 then v * 10 + t a - 48 else 100000) := by
  have e := sc_go h h1
  have q := (sc_z (P := dg) (t := t) (show a + 1 ≤ z by omega)).1
  rw [e, show sc dg t z (a + 1) - a = (sc dg t z (a + 1) - (a + 1)) + 1 by omega, nvF]
theorem nvF_st {t : Nat → Nat} {z a v : Nat} (h : ¬ (a < z ∧ dg (t a) = true)) : nvF t (sc dg t z a - a) a v = v := by
  rw [sc_st h, Nat.sub_self, nvF]
set_option maxHeartbeats 4000000 in
theorem c_X8_passDigits {G : Gx} {d : Nat} {I : FI} {R : FR} {J : FJ} {Q : Po} (hRK : RK R) {t : Nat → Nat} {z : Nat} (hT : TxC I t z) {s k v : Nat} {fc fp : Int32} {a : Nat} (ha : a ≤ z) (hv : v ≤ 100000) (hq : Q (.inl none) 103 (tr I s (sc dg t z a) k (nvF t (sc dg t z a - a) a v) fc fp) R J) : Cc G mX8_passDigits (d + 1) 0 0 [rf G 1] 103 (tr I s a k v fc fp) R J Q := by
  have h6 := hT.2.1
  have key : ∀ f a v, z - a ≤ f → a ≤ z → v ≤ 100000 → Q (.inl none) 103 (tr I s (sc dg t z a) k (nvF t (sc dg t z a - a) a v) fc fp) R J → V G mX8_passDigits (d + 1) 0 0 0 0 0 [(0, rf G 1)] [] 103 (tr I s a k v fc fp) R J Q := by
    intro f
    induction f with
    | zero =>
      intro a v hf ha hv hq
      have c_l : ¬ a < z := by omega
      rw [nvF_st (fun h => c_l h.1), sc_st (fun h => c_l h.1)] at hq
      refine V_aload_n 1 0 rfl _ rfl rfl dX8_passDigits_0 rfl ?_
      refine V_getI 4 1 8 4 (nI a) rfl flX8_34 rfl rfl rfl (by decide) dX8_passDigits_1 rfl ?_
      refine V_aload_n 5 0 rfl _ rfl rfl dX8_passDigits_4 rfl ?_
      refine V_getI 8 1 8 2 (nI z) hT.1 flX8_31 rfl rfl rfl (by decide) dX8_passDigits_5 rfl ?_
      refine V_icmp_ge 68 11 rfl dX8_passDigits_8 rfl (fun c8 => ?_) (fun c8 => absurd (nI_le (show z ≤ a by omega) (by omega)) c8)
      refine V_ret_v rfl (Nat.le_of_ble_eq_true rfl) (fun h => absurd h (by decide)) (Nat.le_of_ble_eq_true rfl) (hq) dX8_passDigits_68
    | succ f ih =>
      intro a v hf ha hv hq
      by_cases c_l : a < z
      · refine V_aload_n 1 0 rfl _ rfl rfl dX8_passDigits_0 rfl ?_
        refine V_getI 4 1 8 4 (nI a) rfl flX8_34 rfl rfl rfl (by decide) dX8_passDigits_1 rfl ?_
        refine V_aload_n 5 0 rfl _ rfl rfl dX8_passDigits_4 rfl ?_
        refine V_getI 8 1 8 2 (nI z) hT.1 flX8_31 rfl rfl rfl (by decide) dX8_passDigits_5 rfl ?_
        refine V_icmp_ge 68 11 rfl dX8_passDigits_8 rfl (fun c8 => absurd c8 (nI_ge c_l (by omega))) (fun c8 => ?_)
        refine V_aload_n 12 0 rfl _ rfl rfl dX8_passDigits_11 rfl ?_
        refine V_getR 15 1 8 0 2 (hRK 1 0 (by decide) (by decide) (by decide)) flX8_9 rfl rfl rfl (by decide) dX8_passDigits_12 rfl ?_
        refine V_aload_n 16 0 rfl _ rfl rfl dX8_passDigits_15 rfl ?_
        refine V_getI 19 1 8 4 (nI a) rfl flX8_34 rfl rfl rfl (by decide) dX8_passDigits_16 rfl ?_
        refine V_baldN 20 2 600 a (bI (t a)) (hT.tr.2.2.1 _ (by omega)) (by omega) (by decide) rfl (by decide) dX8_passDigits_19 rfl ?_
        refine V_callS (K' := 0) (S' := 0) 23 1 [.int (bI (t a))] mkX8_isDigit lkX8_52 rfl (Nat.le_of_ble_eq_true rfl) (Nat.le_of_ble_eq_true rfl) (Nat.le_of_ble_eq_true rfl) (Nat.le_of_ble_eq_true rfl) rfl rfl dX8_passDigits_20 rfl (c_X8_isDigit (hT.2.2.2 a) (fun e1 => ?_) (fun e1 => ?_))
        · refine Kq_i (k' := 0) (sl' := 0) rfl rfl ?_
          rw [nvF_go c_l e1, sc_go c_l e1] at hq
          have e2 := dg_iff.mp e1
          refine V_if_eq 68 26 rfl dX8_passDigits_23 rfl (fun c23 => absurd c23 (by decide)) (fun c23 => ?_)
          refine V_aload_n 27 0 rfl _ rfl rfl dX8_passDigits_26 rfl ?_
          refine V_ldc 29 (100000) rfl ckX8_65 dX8_passDigits_27 rfl ?_
          refine V_aload_n 30 0 rfl _ rfl rfl dX8_passDigits_29 rfl ?_
          refine V_getI 33 1 8 6 (nI v) rfl flX8_46 rfl rfl rfl (by decide) dX8_passDigits_30 rfl ?_
          refine V_bipush 35 (10) rfl dX8_passDigits_33 rfl ?_
          refine V_imul 36 dX8_passDigits_35 rfl ?_
          refine V_aload_n 37 0 rfl _ rfl rfl dX8_passDigits_36 rfl ?_
          refine V_getR 40 1 8 0 2 (hRK 1 0 (by decide) (by decide) (by decide)) flX8_9 rfl rfl rfl (by decide) dX8_passDigits_37 rfl ?_
          refine V_aload_n 41 0 rfl _ rfl rfl dX8_passDigits_40 rfl ?_
          refine V_getI 44 1 8 4 (nI a) rfl flX8_34 rfl rfl rfl (by decide) dX8_passDigits_41 rfl ?_
          refine V_baldN 45 2 600 a (bI (t a)) (hT.tr.2.2.1 _ (by omega)) (by omega) (by decide) rfl (by decide) dX8_passDigits_44 rfl ?_
          refine V_iadd 46 dX8_passDigits_45 rfl ?_
          refine V_bipush 48 (48) rfl dX8_passDigits_46 rfl ?_
          refine V_isub 49 dX8_passDigits_48 rfl ?_
          refine V_min 52 lkX8_22 (Nat.le_of_ble_eq_true rfl) (Nat.le_of_ble_eq_true rfl) (Nat.le_of_ble_eq_true rfl) dX8_passDigits_49 rfl ?_
          refine V_rw (show _ = nI (if v * 10 + t a - 48 < 100000 then v * 10 + t a - 48 else 100000) from nv_s e2.1 e2.2 hv) ?_
          refine V_putI 55 1 8 6 flX8_46 rfl rfl rfl (by decide) rfl dX8_passDigits_52 rfl ?_
          rw [tr_6]
          refine V_aload_n 56 0 rfl _ rfl rfl dX8_passDigits_55 rfl ?_
          refine V_dup 57 rfl dX8_passDigits_56 rfl ?_
          refine V_getI 60 1 8 4 (nI a) rfl flX8_34 rfl rfl rfl (by decide) dX8_passDigits_57 rfl ?_
          refine V_iconst 61 (1) rfl dX8_passDigits_60 rfl ?_
          refine V_iadd 62 dX8_passDigits_61 rfl ?_
          refine V_rw (nI_1 a) ?_
          refine V_putI 65 1 8 4 flX8_34 rfl rfl rfl (by decide) rfl dX8_passDigits_62 rfl ?_
          rw [tr_4]
          refine V_goto 0 rfl dX8_passDigits_65 ?_
          exact ih (a + 1) _ (by omega) (by omega) (by split <;> omega) hq
        · refine Kq_i (k' := 0) (sl' := 0) rfl rfl ?_
          rw [nvF_st (fun h => e1 h.2), sc_st (fun h => e1 h.2)] at hq
          refine V_if_eq 68 26 rfl dX8_passDigits_23 rfl (fun c23 => ?_) (fun c23 => absurd c23 (by decide))
          refine V_ret_v rfl (Nat.le_of_ble_eq_true rfl) (fun h => absurd h (by decide)) (Nat.le_of_ble_eq_true rfl) (hq) dX8_passDigits_68
      · rw [nvF_st (fun h => c_l h.1), sc_st (fun h => c_l h.1)] at hq
        refine V_aload_n 1 0 rfl _ rfl rfl dX8_passDigits_0 rfl ?_
        refine V_getI 4 1 8 4 (nI a) rfl flX8_34 rfl rfl rfl (by decide) dX8_passDigits_1 rfl ?_
        refine V_aload_n 5 0 rfl _ rfl rfl dX8_passDigits_4 rfl ?_
        refine V_getI 8 1 8 2 (nI z) hT.1 flX8_31 rfl rfl rfl (by decide) dX8_passDigits_5 rfl ?_
        refine V_icmp_ge 68 11 rfl dX8_passDigits_8 rfl (fun c8 => ?_) (fun c8 => absurd (nI_le (show z ≤ a by omega) (by omega)) c8)
        refine V_ret_v rfl (Nat.le_of_ble_eq_true rfl) (fun h => absurd h (by decide)) (Nat.le_of_ble_eq_true rfl) (hq) dX8_passDigits_68
  exact key (z - a) a v (Nat.le_refl _) ha hv hq
theorem tp_0 {t : Nat → Nat} {z : Nat} {I : FI} {p : Nat} {fc fp : Int32} (h : z ≤ p) : tp t z I p fc fp = tr I p p 0 0 fc fp := by
  unfold tp enF kdF nuF; rw [if_pos h, if_pos h, if_pos h]
theorem tp_1 {t : Nat → Nat} {z : Nat} {I : FI} {p : Nat} {fc fp : Int32} (h : p < z) (h1 : dg (t p) = true) : tp t z I p fc fp = tr I p (sc dg t z p) 1 (nvF t (sc dg t z p - p) p 0) fc fp := by
  unfold tp enF kdF nuF; rw [if_neg (Nat.not_le.mpr h), if_neg (Nat.not_le.mpr h), if_neg (Nat.not_le.mpr h), if_pos h1, if_pos h1, if_pos h1]
theorem tp_2 {t : Nat → Nat} {z : Nat} {I : FI} {p : Nat} {fc fp : Int32} (h : p < z) (h1 : ¬ dg (t p) = true) (h2 : le_ (t p) = true) : tp t z I p fc fp = tr I p (sc le_ t z p) 2 0 fc fp := by
  unfold tp enF kdF nuF; rw [if_neg (Nat.not_le.mpr h), if_neg (Nat.not_le.mpr h), if_neg (Nat.not_le.mpr h), if_neg h1, if_neg h1, if_neg h1, if_pos h2, if_pos h2]
theorem tp_3 {t : Nat → Nat} {z : Nat} {I : FI} {p : Nat} {fc fp : Int32} (h : p < z) (h1 : ¬ dg (t p) = true) (h2 : ¬ le_ (t p) = true) : tp t z I p fc fp = tr I p (p + 1) 3 0 fc fp := by
  unfold tp enF kdF nuF; rw [if_neg (Nat.not_le.mpr h), if_neg (Nat.not_le.mpr h), if_neg (Nat.not_le.mpr h), if_neg h1, if_neg h1, if_neg h1, if_neg h2, if_neg h2]
set_option maxHeartbeats 8000000 in
theorem c_X8_next {G : Gx} {d : Nat} {I : FI} {R : FR} {J : FJ} {Q : Po} (hRK : RK R) {t : Nat → Nat} {z : Nat} (hT : TxC I t z) {s e k n : Nat} {fc fp : Int32} (he : e ≤ z) (hq : Q (.inl none) 103 (tp t z I (sk t z e) fc fp) R J) : Cc G mX8_next (d + 1 + 1) 0 0 [rf G 1] 103 (tr I s e k n fc fp) R J Q := by
  have h6 := hT.2.1
  have key : ∀ f a, z - a ≤ f → a ≤ z → Q (.inl none) 103 (tp t z I (sk t z a) fc fp) R J → V G mX8_next (d + 1 + 1) 0 0 0 0 8 [(0, rf G 1)] [] 103 (tr I a e k n fc fp) R J Q := by
    have tail : ∀ a, a ≤ z → Q (.inl none) 103 (tp t z I a fc fp) R J → V G mX8_next (d + 1 + 1) 0 0 0 0 46 [(0, rf G 1)] [] 103 (tr I a e k n fc fp) R J Q := by
      intro a ha hq
      by_cases c_l : a < z
      · refine V_aload_n 47 0 rfl _ rfl rfl dX8_next_46 rfl ?_
        refine V_aload_n 48 0 rfl _ rfl rfl dX8_next_47 rfl ?_
        refine V_getI 51 1 8 3 (nI a) rfl flX8_43 rfl rfl rfl (by decide) dX8_next_48 rfl ?_
        refine V_putI 54 1 8 4 flX8_34 rfl rfl rfl (by decide) rfl dX8_next_51 rfl ?_
        rw [tr_4]
        refine V_aload_n 55 0 rfl _ rfl rfl dX8_next_54 rfl ?_
        refine V_iconst 56 (0) rfl dX8_next_55 rfl ?_
        refine V_putI 59 1 8 6 flX8_46 rfl rfl rfl (by decide) rfl dX8_next_56 rfl ?_
        rw [show (0 : Int32) = nI 0 from rfl, tr_6]
        refine V_aload_n 60 0 rfl _ rfl rfl dX8_next_59 rfl ?_
        refine V_getI 63 1 8 3 (nI a) rfl flX8_43 rfl rfl rfl (by decide) dX8_next_60 rfl ?_
        refine V_aload_n 64 0 rfl _ rfl rfl dX8_next_63 rfl ?_
        refine V_getI 67 1 8 2 (nI z) hT.1 flX8_31 rfl rfl rfl (by decide) dX8_next_64 rfl ?_
        refine V_icmp_lt 78 70 rfl dX8_next_67 rfl (fun c67 => ?_) (fun c67 => absurd (nI_lt c_l (by omega)) c67)
        refine V_aload_n 79 0 rfl _ rfl rfl dX8_next_78 rfl ?_
        refine V_getR 82 1 8 0 2 (hRK 1 0 (by decide) (by decide) (by decide)) flX8_9 rfl rfl rfl (by decide) dX8_next_79 rfl ?_
        refine V_aload_n 83 0 rfl _ rfl rfl dX8_next_82 rfl ?_
        refine V_getI 86 1 8 3 (nI a) rfl flX8_43 rfl rfl rfl (by decide) dX8_next_83 rfl ?_
        refine V_baldN 87 2 600 a (bI (t a)) (hT.tr.2.2.1 _ (by omega)) (by omega) (by decide) rfl (by decide) dX8_next_86 rfl ?_
        refine V_callS (K' := 0) (S' := 0) 90 1 [.int (bI (t a))] mkX8_isDigit lkX8_52 rfl (Nat.le_of_ble_eq_true rfl) (Nat.le_of_ble_eq_true rfl) (Nat.le_of_ble_eq_true rfl) (Nat.le_of_ble_eq_true rfl) rfl rfl dX8_next_87 rfl (c_X8_isDigit (hT.2.2.2 a) (fun e1 => ?_) (fun e1 => ?_))
        · refine Kq_i (k' := 0) (sl' := 0) rfl rfl ?_
          rw [tp_1 c_l e1] at hq
          refine V_if_eq 105 93 rfl dX8_next_90 rfl (fun c90 => absurd c90 (by decide)) (fun c90 => ?_)
          refine V_aload_n 94 0 rfl _ rfl rfl dX8_next_93 rfl ?_
          refine V_iconst 95 (1) rfl dX8_next_94 rfl ?_
          refine V_putI 98 1 8 5 flX8_49 rfl rfl rfl (by decide) rfl dX8_next_95 rfl ?_
          rw [show (1 : Int32) = nI 1 from rfl, tr_5]
          refine V_aload_n 99 0 rfl _ rfl rfl dX8_next_98 rfl ?_
          refine V_callV (K' := 0) (S' := 0) 102 1 8 0 [] mkX8_passDigits lkX8_56 (by decide) rfl rfl (by decide) rfl (Nat.le_of_ble_eq_true rfl) (Nat.le_of_ble_eq_true rfl) (Nat.le_of_ble_eq_true rfl) (Nat.le_of_ble_eq_true rfl) rfl rfl dX8_next_99 rfl (c_X8_passDigits hRK hT (by omega) (by omega) ?_)
          refine Kq_v (k' := 0) (sl' := 0) rfl rfl ?_
          refine V_goto 147 rfl dX8_next_102 ?_
          refine V_ret_v rfl (Nat.le_of_ble_eq_true rfl) (fun h => absurd h (by decide)) (Nat.le_of_ble_eq_true rfl) (hq) dX8_next_147
        · refine Kq_i (k' := 0) (sl' := 0) rfl rfl ?_
          have e0 := e1
          refine V_if_eq 105 93 rfl dX8_next_90 rfl (fun c90 => ?_) (fun c90 => absurd c90 (by decide))
          refine V_aload_n 106 0 rfl _ rfl rfl dX8_next_105 rfl ?_
          refine V_getR 109 1 8 0 2 (hRK 1 0 (by decide) (by decide) (by decide)) flX8_9 rfl rfl rfl (by decide) dX8_next_106 rfl ?_
          refine V_aload_n 110 0 rfl _ rfl rfl dX8_next_109 rfl ?_
          refine V_getI 113 1 8 3 (nI a) rfl flX8_43 rfl rfl rfl (by decide) dX8_next_110 rfl ?_
          refine V_baldN 114 2 600 a (bI (t a)) (hT.tr.2.2.1 _ (by omega)) (by omega) (by decide) rfl (by decide) dX8_next_113 rfl ?_
          refine V_callS (K' := 0) (S' := 0) 117 1 [.int (bI (t a))] mkX8_isLetter lkX8_59 rfl (Nat.le_of_ble_eq_true rfl) (Nat.le_of_ble_eq_true rfl) (Nat.le_of_ble_eq_true rfl) (Nat.le_of_ble_eq_true rfl) rfl rfl dX8_next_114 rfl (c_X8_isLetter (hT.2.2.2 a) (fun e1 => ?_) (fun e1 => ?_))
          · refine Kq_i (k' := 0) (sl' := 0) rfl rfl ?_
            rw [tp_2 c_l e0 e1] at hq
            refine V_if_eq 132 120 rfl dX8_next_117 rfl (fun c117 => absurd c117 (by decide)) (fun c117 => ?_)
            refine V_aload_n 121 0 rfl _ rfl rfl dX8_next_120 rfl ?_
            refine V_iconst 122 (2) rfl dX8_next_121 rfl ?_
            refine V_putI 125 1 8 5 flX8_49 rfl rfl rfl (by decide) rfl dX8_next_122 rfl ?_
            rw [show (2 : Int32) = nI 2 from rfl, tr_5]
            refine V_aload_n 126 0 rfl _ rfl rfl dX8_next_125 rfl ?_
            refine V_callV (K' := 0) (S' := 0) 129 1 8 0 [] mkX8_passLetters lkX8_62 (by decide) rfl rfl (by decide) rfl (Nat.le_of_ble_eq_true rfl) (Nat.le_of_ble_eq_true rfl) (Nat.le_of_ble_eq_true rfl) (Nat.le_of_ble_eq_true rfl) rfl rfl dX8_next_126 rfl (c_X8_passLetters hRK hT (by omega) ?_)
            refine Kq_v (k' := 0) (sl' := 0) rfl rfl ?_
            refine V_goto 147 rfl dX8_next_129 ?_
            refine V_ret_v rfl (Nat.le_of_ble_eq_true rfl) (fun h => absurd h (by decide)) (Nat.le_of_ble_eq_true rfl) (hq) dX8_next_147
          · refine Kq_i (k' := 0) (sl' := 0) rfl rfl ?_
            rw [tp_3 c_l e0 e1] at hq
            refine V_if_eq 132 120 rfl dX8_next_117 rfl (fun c117 => ?_) (fun c117 => absurd c117 (by decide))
            refine V_aload_n 133 0 rfl _ rfl rfl dX8_next_132 rfl ?_
            refine V_iconst 134 (3) rfl dX8_next_133 rfl ?_
            refine V_putI 137 1 8 5 flX8_49 rfl rfl rfl (by decide) rfl dX8_next_134 rfl ?_
            rw [show (3 : Int32) = nI 3 from rfl, tr_5]
            refine V_aload_n 138 0 rfl _ rfl rfl dX8_next_137 rfl ?_
            refine V_dup 139 rfl dX8_next_138 rfl ?_
            refine V_getI 142 1 8 4 (nI a) rfl flX8_34 rfl rfl rfl (by decide) dX8_next_139 rfl ?_
            refine V_iconst 143 (1) rfl dX8_next_142 rfl ?_
            refine V_iadd 144 dX8_next_143 rfl ?_
            refine V_rw (nI_add a 1) ?_
            refine V_putI 147 1 8 4 flX8_34 rfl rfl rfl (by decide) rfl dX8_next_144 rfl ?_
            rw [tr_4]
            refine V_ret_v rfl (Nat.le_of_ble_eq_true rfl) (fun h => absurd h (by decide)) (Nat.le_of_ble_eq_true rfl) (hq) dX8_next_147
      · rw [tp_0 (by omega)] at hq
        refine V_aload_n 47 0 rfl _ rfl rfl dX8_next_46 rfl ?_
        refine V_aload_n 48 0 rfl _ rfl rfl dX8_next_47 rfl ?_
        refine V_getI 51 1 8 3 (nI a) rfl flX8_43 rfl rfl rfl (by decide) dX8_next_48 rfl ?_
        refine V_putI 54 1 8 4 flX8_34 rfl rfl rfl (by decide) rfl dX8_next_51 rfl ?_
        rw [tr_4]
        refine V_aload_n 55 0 rfl _ rfl rfl dX8_next_54 rfl ?_
        refine V_iconst 56 (0) rfl dX8_next_55 rfl ?_
        refine V_putI 59 1 8 6 flX8_46 rfl rfl rfl (by decide) rfl dX8_next_56 rfl ?_
        rw [show (0 : Int32) = nI 0 from rfl, tr_6]
        refine V_aload_n 60 0 rfl _ rfl rfl dX8_next_59 rfl ?_
        refine V_getI 63 1 8 3 (nI a) rfl flX8_43 rfl rfl rfl (by decide) dX8_next_60 rfl ?_
        refine V_aload_n 64 0 rfl _ rfl rfl dX8_next_63 rfl ?_
        refine V_getI 67 1 8 2 (nI z) hT.1 flX8_31 rfl rfl rfl (by decide) dX8_next_64 rfl ?_
        refine V_icmp_lt 78 70 rfl dX8_next_67 rfl (fun c67 => absurd c67 (nI_nlt (show z ≤ a by omega) (by omega))) (fun c67 => ?_)
        refine V_aload_n 71 0 rfl _ rfl rfl dX8_next_70 rfl ?_
        refine V_iconst 72 (0) rfl dX8_next_71 rfl ?_
        refine V_putI 75 1 8 5 flX8_49 rfl rfl rfl (by decide) rfl dX8_next_72 rfl ?_
        rw [show (0 : Int32) = nI 0 from rfl, tr_5]
        refine V_goto 147 rfl dX8_next_75 ?_
        refine V_ret_v rfl (Nat.le_of_ble_eq_true rfl) (fun h => absurd h (by decide)) (Nat.le_of_ble_eq_true rfl) (hq) dX8_next_147
    intro f
    induction f with
    | zero =>
      intro a hf ha hq
      have c_l : ¬ a < z := by omega
      rw [sk_st (fun h => c_l h.1)] at hq
      refine V_aload_n 9 0 rfl _ rfl rfl dX8_next_8 rfl ?_
      refine V_getI 12 1 8 3 (nI a) rfl flX8_43 rfl rfl rfl (by decide) dX8_next_9 rfl ?_
      refine V_aload_n 13 0 rfl _ rfl rfl dX8_next_12 rfl ?_
      refine V_getI 16 1 8 2 (nI z) hT.1 flX8_31 rfl rfl rfl (by decide) dX8_next_13 rfl ?_
      refine V_icmp_ge 46 19 rfl dX8_next_16 rfl (fun c16 => ?_) (fun c16 => absurd (nI_le (show z ≤ a by omega) (by omega)) c16)
      exact tail a ha hq
    | succ f ih =>
      intro a hf ha hq
      by_cases c_l : a < z
      · by_cases c_s : t a = 32
        · refine V_aload_n 9 0 rfl _ rfl rfl dX8_next_8 rfl ?_
          refine V_getI 12 1 8 3 (nI a) rfl flX8_43 rfl rfl rfl (by decide) dX8_next_9 rfl ?_
          refine V_aload_n 13 0 rfl _ rfl rfl dX8_next_12 rfl ?_
          refine V_getI 16 1 8 2 (nI z) hT.1 flX8_31 rfl rfl rfl (by decide) dX8_next_13 rfl ?_
          refine V_icmp_ge 46 19 rfl dX8_next_16 rfl (fun c16 => absurd c16 (nI_ge c_l (by omega))) (fun c16 => ?_)
          refine V_aload_n 20 0 rfl _ rfl rfl dX8_next_19 rfl ?_
          refine V_getR 23 1 8 0 2 (hRK 1 0 (by decide) (by decide) (by decide)) flX8_9 rfl rfl rfl (by decide) dX8_next_20 rfl ?_
          refine V_aload_n 24 0 rfl _ rfl rfl dX8_next_23 rfl ?_
          refine V_getI 27 1 8 3 (nI a) rfl flX8_43 rfl rfl rfl (by decide) dX8_next_24 rfl ?_
          refine V_baldN 28 2 600 a (bI (t a)) (hT.tr.2.2.1 _ (by omega)) (by omega) (by decide) rfl (by decide) dX8_next_27 rfl ?_
          refine V_bipush 30 (32) rfl dX8_next_28 rfl ?_
          refine V_icmp_ne 46 33 rfl dX8_next_30 rfl (fun c30 => absurd ((bI_c (hT.2.2.2 a) (by decide)).mpr c_s) c30) (fun c30 => ?_)
          refine V_aload_n 34 0 rfl _ rfl rfl dX8_next_33 rfl ?_
          refine V_dup 35 rfl dX8_next_34 rfl ?_
          refine V_getI 38 1 8 3 (nI a) rfl flX8_43 rfl rfl rfl (by decide) dX8_next_35 rfl ?_
          refine V_iconst 39 (1) rfl dX8_next_38 rfl ?_
          refine V_iadd 40 dX8_next_39 rfl ?_
          refine V_rw (nI_add a 1) ?_
          refine V_putI 43 1 8 3 flX8_43 rfl rfl rfl (by decide) rfl dX8_next_40 rfl ?_
          rw [tr_3]
          refine V_goto 8 rfl dX8_next_43 ?_
          exact ih (a + 1) (by omega) (by omega) (by rw [← sk_go c_l c_s]; exact hq)
        · rw [sk_st (fun h => c_s h.2)] at hq
          refine V_aload_n 9 0 rfl _ rfl rfl dX8_next_8 rfl ?_
          refine V_getI 12 1 8 3 (nI a) rfl flX8_43 rfl rfl rfl (by decide) dX8_next_9 rfl ?_
          refine V_aload_n 13 0 rfl _ rfl rfl dX8_next_12 rfl ?_
          refine V_getI 16 1 8 2 (nI z) hT.1 flX8_31 rfl rfl rfl (by decide) dX8_next_13 rfl ?_
          refine V_icmp_ge 46 19 rfl dX8_next_16 rfl (fun c16 => absurd c16 (nI_ge c_l (by omega))) (fun c16 => ?_)
          refine V_aload_n 20 0 rfl _ rfl rfl dX8_next_19 rfl ?_
          refine V_getR 23 1 8 0 2 (hRK 1 0 (by decide) (by decide) (by decide)) flX8_9 rfl rfl rfl (by decide) dX8_next_20 rfl ?_
          refine V_aload_n 24 0 rfl _ rfl rfl dX8_next_23 rfl ?_
          refine V_getI 27 1 8 3 (nI a) rfl flX8_43 rfl rfl rfl (by decide) dX8_next_24 rfl ?_
          refine V_baldN 28 2 600 a (bI (t a)) (hT.tr.2.2.1 _ (by omega)) (by omega) (by decide) rfl (by decide) dX8_next_27 rfl ?_
          refine V_bipush 30 (32) rfl dX8_next_28 rfl ?_
          refine V_icmp_ne 46 33 rfl dX8_next_30 rfl (fun c30 => ?_) (fun c30 => absurd ((bI_c (hT.2.2.2 a) (c := 32) (by decide)).mp c30) c_s)
          exact tail a ha hq
      · rw [sk_st (fun h => c_l h.1)] at hq
        refine V_aload_n 9 0 rfl _ rfl rfl dX8_next_8 rfl ?_
        refine V_getI 12 1 8 3 (nI a) rfl flX8_43 rfl rfl rfl (by decide) dX8_next_9 rfl ?_
        refine V_aload_n 13 0 rfl _ rfl rfl dX8_next_12 rfl ?_
        refine V_getI 16 1 8 2 (nI z) hT.1 flX8_31 rfl rfl rfl (by decide) dX8_next_13 rfl ?_
        refine V_icmp_ge 46 19 rfl dX8_next_16 rfl (fun c16 => ?_) (fun c16 => absurd (nI_le (show z ≤ a by omega) (by omega)) c16)
        exact tail a ha hq
  show V _ _ _ _ _ _ _ _ [(0, rf G 1)] [] _ _ _ _ _
  refine V_aload_n 1 0 rfl _ rfl rfl dX8_next_0 rfl ?_
  refine V_aload_n 2 0 rfl _ rfl rfl dX8_next_1 rfl ?_
  refine V_getI 5 1 8 4 (nI e) rfl flX8_34 rfl rfl rfl (by decide) dX8_next_2 rfl ?_
  refine V_putI 8 1 8 3 flX8_43 rfl rfl rfl (by decide) rfl dX8_next_5 rfl ?_
  rw [tr_3]
  exact key (z - e) e (Nat.le_refl _) he hq
