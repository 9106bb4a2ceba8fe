/-! ===== the reference's readers ===== -/
theorem fa_or (a b : Nat) : nI a ||| nI b = nI (a ||| b) := by
  apply Int32.toBitVec_inj.1
  show BitVec.ofNat 32 a ||| BitVec.ofNat 32 b = BitVec.ofNat 32 (a ||| b)
  apply BitVec.eq_of_getLsbD_eq
  intro i hi
  simp [hi]
theorem fa_or_sum {a k : Nat} (b : Nat) (h : a < 2 ^ k) : nI (2 ^ k * b) ||| nI a = nI (2 ^ k * b + a) := by rw [fa_or, Nat.two_pow_add_eq_or_of_lt h]
theorem ln5 {v d : Nat} (hv : v < 2 ^ 26) (hd : d < 32) : (nI v <<< ((5 : Int32) &&& 31)) ||| nI d = nI (v * 32 + d) := by
  rw [pk_shlN _ 5 (by decide) (by omega), show v * 2 ^ 5 = 2 ^ 5 * v by omega, fa_or_sum (k := 5) v (by omega), show 2 ^ 5 * v = v * 32 by omega]
/-- a word's letters as one number -/
def cdF (x : Nat → Nat) : Nat → Nat
  | 0 => 0
  | k + 1 => cdF x k * 32 + x k
theorem cd_lt {x : Nat → Nat} : ∀ n, (∀ i, i < n → x i < 32) → cdF x n < 32 ^ n := by
  intro n
  induction n with
  | zero => intro _; show 0 < 32 ^ 0; decide
  | succ n ih =>
    intro h
    have a := ih (fun i hi => h i (by omega))
    have b := h n (by omega)
    rw [cdF, Nat.pow_succ]
    omega
theorem cd_inj {x y : Nat → Nat} : ∀ n m, (∀ i, i < n → 1 ≤ x i ∧ x i < 32) → (∀ i, i < m → 1 ≤ y i ∧ y i < 32) → cdF x n = cdF y m → n = m ∧ ∀ i, i < n → x i = y i := by
  intro n
  induction n with
  | zero =>
    intro m hx hy e
    cases m with
    | zero => exact ⟨rfl, fun i h => absurd h (by omega)⟩
    | succ m =>
      have := hy m (by omega)
      rw [cdF, cdF] at e
      omega
  | succ n ih =>
    intro m hx hy e
    have a := hx n (by omega)
    cases m with
    | zero => rw [cdF, cdF] at e; omega
    | succ m =>
      have b := hy m (by omega)
      rw [cdF, cdF] at e
      obtain ⟨h1, h2⟩ := ih m (fun i hi => hx i (by omega)) (fun i hi => hy i (by omega)) (by omega)
      subst h1
      refine ⟨rfl, fun i hi => ?_⟩
      by_cases q : i = n
      · subst q; omega
      · exact h2 i (by omega)
theorem cd_congr {x y : Nat → Nat} : ∀ n, (∀ i, i < n → x i = y i) → cdF x n = cdF y n := by
  intro n
  induction n with
  | zero => intro _; rfl
  | succ n ih => intro h; rw [cdF, cdF, ih (fun i hi => h i (by omega)), h n (by omega)]
def wcF (t : Nat → Nat) (z p : Nat) : Nat := if 6 < sc le_ t z p - p then 0 else cdF (fun j => t (p + j) - 96) (sc le_ t z p - p)
def ocF (i : Nat) : Nat := cdF (fun j => stN i j - 96) (stL i)
/-- which constants are words -/
def isWd (i : Nat) : Prop := i < 45 ∧ 0 < stL i ∧ stL i ≤ 6 ∧ ∀ j, j < stL i → 97 ≤ stN i j ∧ stN i j ≤ 122
theorem wd_all : ∀ i, i < 45 → ¬ i = 0 → ¬ i = 23 → (0 < stL i ∧ stL i ≤ 6 ∧ ∀ j, j < stL i → 97 ≤ stN i j ∧ stN i j ≤ 122) := by decide +kernel
theorem wdo (i : Nat) (h : i < 45) (h0 : ¬ i = 0) (h1 : ¬ i = 23) : isWd i := ⟨h, wd_all i h h0 h1⟩
theorem sc_all {t : Nat → Nat} {z p j : Nat} (hp : p ≤ z) (h : j < sc le_ t z p - p) : 97 ≤ t (p + j) ∧ t (p + j) ≤ 122 := le_iff.mp ((sc_le (P := le_) (t := t) (z - p) p (Nat.le_refl _) hp).2.2 (p + j) (by omega) (by omega))
theorem wc_iff {t : Nat → Nat} {z p i : Nat} (hp : p ≤ z) (hi : isWd i) : wcF t z p = ocF i ↔ WdAt t z p i := by
  obtain ⟨h0, h1, h2, h3⟩ := hi
  unfold wcF ocF WdAt
  have pos : 0 < cdF (fun j => stN i j - 96) (stL i) := by
    rw [show stL i = (stL i - 1) + 1 by omega, cdF]
    have a := h3 (stL i - 1) (by omega)
    show 0 < _ * 32 + (stN i (stL i - 1) - 96)
    omega
  by_cases c : 6 < sc le_ t z p - p
  · rw [if_pos c]
    exact ⟨fun e => by omega, fun e => by have := e.1; omega⟩
  · rw [if_neg c]
    refine ⟨fun e => ?_, fun e => ?_⟩
    · obtain ⟨e1, e2⟩ := cd_inj _ _ (fun j hj => by have := sc_all (t := t) hp hj; show 1 ≤ t (p + j) - 96 ∧ t (p + j) - 96 < 32; omega) (fun j hj => by have := h3 j hj; show 1 ≤ stN i j - 96 ∧ stN i j - 96 < 32; omega) e
      refine ⟨e1, fun j hj => ?_⟩
      have a := sc_all (t := t) hp (show j < sc le_ t z p - p by omega)
      have b := h3 j hj
      have c2 : t (p + j) - 96 = stN i j - 96 := e2 j (by omega)
      omega
    · rw [e.1]
      exact cd_congr _ (fun j hj => by show t (p + j) - 96 = stN i j - 96; rw [e.2 j hj])
theorem p32 {n : Nat} (h : n ≤ 6) : 32 ^ n ≤ 2 ^ 30 := by
  rcases (show n = 0 ∨ n = 1 ∨ n = 2 ∨ n = 3 ∨ n = 4 ∨ n = 5 ∨ n = 6 by omega) with rfl | rfl | rfl | rfl | rfl | rfl | rfl <;> decide
theorem p32' {n : Nat} (h : n < 6) : 32 ^ n ≤ 2 ^ 25 := by
  rcases (show n = 0 ∨ n = 1 ∨ n = 2 ∨ n = 3 ∨ n = 4 ∨ n = 5 by omega) with rfl | rfl | rfl | rfl | rfl | rfl <;> decide
theorem wcF_lt {t : Nat → Nat} {z p : Nat} (hp : p ≤ z) : wcF t z p < 2 ^ 30 := by
  unfold wcF
  by_cases c : 6 < sc le_ t z p - p
  · rw [if_pos c]; decide
  · rw [if_neg c]
    have a := cd_lt (x := fun j => t (p + j) - 96) (sc le_ t z p - p) (fun j hj => by have := sc_all (t := t) hp hj; show t (p + j) - 96 < 32; omega)
    have b := p32 (show sc le_ t z p - p ≤ 6 by omega)
    omega
theorem ocF_lt {i : Nat} (hi : isWd i) : ocF i < 2 ^ 30 := by
  obtain ⟨h0, h1, h2, h3⟩ := hi
  have a := cd_lt (x := fun j => stN i j - 96) (stL i) (fun j hj => by have := h3 j hj; show stN i j - 96 < 32; omega)
  have b := p32 h2
  unfold ocF
  omega
theorem wo_eq {t : Nat → Nat} {z p i : Nat} (hp : p ≤ z) (hi : isWd i) : nI (wcF t z p) = nI (ocF i) ↔ WdAt t z p i := by
  have a := wcF_lt (t := t) hp
  have b := ocF_lt hi
  rw [nI_eq (by omega) (by omega), wc_iff hp hi]
theorem oo_eq {i j : Nat} (h : strB i = strB j) : ocF i = ocF j := by unfold ocF stN stL; rw [h]
/-- numbers as the reference has them -/
def mvF (t : Nat → Nat) : Nat → Nat → Nat → Nat
  | 0, _, v => v
  | k + 1, a, v => mvF t k (a + 1) (if 9999 < v then 10000 else 10 * v + t a - 48)
def Rl (v w : Nat) : Prop := (v = w ∧ w ≤ 9999) ∨ (9999 < v ∧ 9999 < w ∧ w ≤ 99999)
theorem nm_rel {t : Nat → Nat} : ∀ k a v w, (∀ j, j < k → 48 ≤ t (a + j) ∧ t (a + j) ≤ 57) → Rl v w → Rl (nvF t k a v) (mvF t k a w) := by
  intro k
  induction k with
  | zero => intro a v w _ h; exact h
  | succ k ih =>
    intro a v w hd h
    rw [nvF, mvF]
    have q := hd 0 (by omega)
    rw [Nat.add_zero] at q
    refine ih (a + 1) _ _ (fun j hj => by have := hd (j + 1) (by omega); rw [show a + 1 + j = a + (j + 1) by omega]; exact this) ?_
    rcases h with ⟨h1, h2⟩ | ⟨h1, h2, h3⟩
    · subst h1
      rw [if_pos (by omega), if_neg (by omega)]
      by_cases c : v * 10 + t a - 48 ≤ 9999
      · exact Or.inl ⟨by omega, by omega⟩
      · exact Or.inr ⟨by omega, by omega, by omega⟩
    · rw [if_pos h2]
      by_cases c : v < 100000
      · rw [if_pos c]; exact Or.inr ⟨by omega, by omega, by omega⟩
      · rw [if_neg c]; exact Or.inr ⟨by omega, by omega, by omega⟩
theorem mvF_go {t : Nat → Nat} {z a v : Nat} (h : a < z) (h1 : dg (t a) = true) : mvF t (sc dg t z a - a) a v = mvF t (sc dg t z (a + 1) - (a + 1)) (a + 1) (if 9999 < v then 10000 else 10 * v + t a - 48) := by
  have e := sc_go h h1
  have q := (sc_z (P := dg) (t := t) (show a + 1 ≤ z by omega)).1
  rw [e, show sc dg t z (a + 1) - a = (sc dg t z (a + 1) - (a + 1)) + 1 by omega, mvF]
theorem mvF_st {t : Nat → Nat} {z a v : Nat} (h : ¬ (a < z ∧ dg (t a) = true)) : mvF t (sc dg t z a - a) a v = v := by
  rw [sc_st h, Nat.sub_self, mvF]
theorem lx_up {I : FI} {a j q : Nat} {b k v : Int32} (h : j = 69 → q ≠ 4 ∧ q ≠ 5 ∧ q ≠ 6) : up2 (lx I a b k) j q v = lx (up2 I j q v) a b k := by
  funext o r
  by_cases h1 : o = 69
  · subst h1
    by_cases h2 : (69 : Nat) = j
    · subst h2
      obtain ⟨h3, h4, h5⟩ := h rfl
      by_cases e4 : r = 4
      · subst e4; simp [up2, upd, lx, Ne.symm h3]
      · by_cases e5 : r = 5
        · subst e5; simp [up2, upd, lx, Ne.symm h4]
        · by_cases e6 : r = 6
          · subst e6; simp [up2, upd, lx, Ne.symm h5]
          · simp [up2, upd, lx, e4, e5, e6]
    · simp [up2, lx, h2]
  · by_cases h2 : o = j
    · subst h2; simp [up2, lx, h1]
    · simp [up2, lx, h1, h2]
theorem lx_n {I : FI} {a o : Nat} {b k : Int32} (h : o ≠ 69) : lx I a b k o = I o := if_neg h
theorem lx_69 {I : FI} {a j : Nat} {b k : Int32} (h4 : j ≠ 4) (h5 : j ≠ 5) (h6 : j ≠ 6) : lx I a b k 69 j = I 69 j := by simp [lx, h4, h5, h6]
theorem TxM.up {I : FI} {t : Nat → Nat} {z a j : Nat} {v : Int32} (h : TxM I t z) (h1 : a = 69 → j ≠ 3) (h2 : a ≠ 71) : TxM (up2 I a j v) t z := by
  refine ⟨?_, h.2.1, fun q hq => by rw [up2_n _ _ _ (Ne.symm h2)]; exact h.2.2.1 q hq, h.2.2.2⟩
  by_cases e : 69 = a
  · subst e; rw [up2_s, upd_n (Ne.symm (h1 rfl))]; exact h.1
  · rw [up2_n _ _ _ e]; exact h.1
theorem TxM.fr {I I' : FI} {t : Nat → Nat} {z : Nat} (h : TxM I t z) (h1 : I' 69 3 = I 69 3) (h2 : I' 71 = I 71) : TxM I' t z := ⟨by rw [h1]; exact h.1, h.2.1, fun j hj => by rw [h2]; exact h.2.2.1 j hj, h.2.2.2⟩
theorem c_X11_wrong {G : Gx} {d : Nat} {I : FI} {R : FR} {J : FJ} {Q : Po} {a q : Nat} {b k kd : Int32} (h1 : ¬ b = -1 → Q (.inl none) 103 (lx I a b k) R J) (h0 : b = -1 → Q (.inl none) 103 (lx I a (nI q) kd) R J) : Cc G mX11_wrong d 0 0 [rf G 69, .int kd, .int (nI q)] 103 (lx I a b k) R J Q := by
  show V _ _ _ _ _ _ _ _ [(0, rf G 69), (1, .int kd), (2, .int (nI q))] [] _ _ _ _ _
  refine V_aload_n 1 0 rfl _ rfl rfl dX11_wrong_0 rfl ?_
  refine V_getI 4 69 11 5 b rfl flX11_123 rfl rfl rfl (by decide) dX11_wrong_1 rfl ?_
  refine V_iconst 5 (-1) rfl dX11_wrong_4 rfl ?_
  refine V_icmp_eq 9 8 rfl dX11_wrong_5 rfl (fun c5 => ?_) (fun c5 => ?_)
  · refine V_aload_n 10 0 rfl _ rfl rfl dX11_wrong_9 rfl ?_
    refine V_iload_n 11 2 rfl rfl dX11_wrong_10 rfl ?_
    refine V_putI 14 69 11 5 flX11_123 rfl rfl rfl (by decide) rfl dX11_wrong_11 rfl ?_
    rw [lx_b]
    refine V_aload_n 15 0 rfl _ rfl rfl dX11_wrong_14 rfl ?_
    refine V_iload_n 16 1 rfl rfl dX11_wrong_15 rfl ?_
    refine V_putI 19 69 11 6 flX11_126 rfl rfl rfl (by decide) rfl dX11_wrong_16 rfl ?_
    rw [lx_k]
    refine V_ret_v rfl (Nat.le_of_ble_eq_true rfl) (fun h => absurd h (by decide)) (Nat.le_of_ble_eq_true rfl) (h0 c5) dX11_wrong_19
  · refine V_ret_v rfl (Nat.le_of_ble_eq_true rfl) (fun h => absurd h (by decide)) (Nat.le_of_ble_eq_true rfl) (h1 c5) dX11_wrong_8
set_option maxHeartbeats 4000000 in
theorem c_X11_isMore {G : Gx} {d : Nat} {I : FI} {R : FR} {J : FJ} {Q : Po} (hRM : ∀ k, R 69 k = refM k) {t : Nat → Nat} {z : Nat} (hT : TxM I t z) {a : Nat} {b k : Int32} (ha : a ≤ z) (h1 : sk t z a < z → Q (.inl (some (.int 1))) 103 (lx I (sk t z a) b k) R J) (h0 : ¬ sk t z a < z → Q (.inl (some (.int 0))) 103 (lx I (sk t z a) b k) R J) : Cc G mX11_isMore (d + 1) 0 0 [rf G 69] 103 (lx I a b k) R J Q := by
  have h6 := hT.2.1
  show V _ _ _ _ _ _ _ _ [(0, rf G 69)] [] _ _ _ _ _
  have hs := sk_z (t := t) ha
  refine V_aload_n 1 0 rfl _ rfl rfl dX11_isMore_0 rfl ?_
  refine V_callV (K' := 0) (S' := 0) 4 69 11 0 [] mkX11_here lkX11_135 (by decide) rfl rfl (by decide) rfl (Nat.le_of_ble_eq_true rfl) (Nat.le_of_ble_eq_true rfl) (Nat.le_of_ble_eq_true rfl) (Nat.le_of_ble_eq_true rfl) rfl rfl dX11_isMore_1 rfl (c_X11_here hRM hT ha ?_)
  refine Kq_i (k' := 0) (sl' := 0) rfl rfl ?_
  refine V_pop 5 rfl dX11_isMore_4 rfl ?_
  refine V_aload_n 6 0 rfl _ rfl rfl dX11_isMore_5 rfl ?_
  refine V_getI 9 69 11 4 (nI (sk t z a)) rfl flX11_129 rfl rfl rfl (by decide) dX11_isMore_6 rfl ?_
  refine V_aload_n 10 0 rfl _ rfl rfl dX11_isMore_9 rfl ?_
  refine V_getI 13 69 11 3 (nI z) hT.1 flX11_132 rfl rfl rfl (by decide) dX11_isMore_10 rfl ?_
  refine V_icmp_ge 20 16 rfl dX11_isMore_13 rfl (fun c13 => ?_) (fun c13 => ?_)
  · refine V_iconst 21 (0) rfl dX11_isMore_20 rfl ?_
    refine V_ret_i rfl (by first | rfl | decide) (Nat.le_of_ble_eq_true rfl) (fun h => absurd h (by decide)) (Nat.le_of_ble_eq_true rfl) (h0 (fun q => absurd c13 (nI_ge q (by omega)))) dX11_isMore_21
  · refine V_iconst 17 (1) rfl dX11_isMore_16 rfl ?_
    refine V_goto 21 rfl dX11_isMore_17 ?_
    refine V_ret_i rfl (by first | rfl | decide) (Nat.le_of_ble_eq_true rfl) (fun h => absurd h (by decide)) (Nat.le_of_ble_eq_true rfl) (h1 ((nI_ltI (by omega) (by omega)).mp (Int32.not_le.mp c13))) dX11_isMore_21
set_option maxHeartbeats 4000000 in
theorem c_X11_pass {G : Gx} {d : Nat} {I : FI} {R : FR} {J : FJ} {Q : Po} (hRM : ∀ k, R 69 k = refM k) {t : Nat → Nat} {z : Nat} (hT : TxM I t z) {a : Nat} {b k : Int32} (ha : a ≤ z) (hq : Q (.inl none) 103 (lx I (sc le_ t z a) b k) R J) : Cc G mX11_pass (d + 1) 0 0 [rf G 69] 103 (lx I a b k) R J Q := by
  have h6 := hT.2.1
  show V _ _ _ _ _ _ _ _ [(0, rf G 69)] [] _ _ _ _ _
  have key : ∀ f a, z - a ≤ f → a ≤ z → Q (.inl none) 103 (lx I (sc le_ t z a) b k) R J → V G mX11_pass (d + 1) 0 0 0 0 0 [(0, rf G 69)] [] 103 (lx I a b k) R J Q := by
    intro f
    induction f with
    | zero =>
      intro a hf ha hq
      have c_l : ¬ a < z := by omega
      rw [sc_st (fun h => c_l h.1)] at hq
      refine V_aload_n 1 0 rfl _ rfl rfl dX11_pass_0 rfl ?_
      refine V_getI 4 69 11 4 (nI a) rfl flX11_129 rfl rfl rfl (by decide) dX11_pass_1 rfl ?_
      refine V_aload_n 5 0 rfl _ rfl rfl dX11_pass_4 rfl ?_
      refine V_getI 8 69 11 3 (nI z) hT.1 flX11_132 rfl rfl rfl (by decide) dX11_pass_5 rfl ?_
      refine V_icmp_ge 39 11 rfl dX11_pass_8 rfl (fun c8 => ?_) (fun c8 => absurd (nI_le (show z ≤ a by omega) (by omega)) c8)
      refine V_ret_v rfl (Nat.le_of_ble_eq_true rfl) (fun h => absurd h (by decide)) (Nat.le_of_ble_eq_true rfl) (hq) dX11_pass_39
    | succ f ih =>
      intro a hf ha hq
      by_cases c_l : a < z
      · refine V_aload_n 1 0 rfl _ rfl rfl dX11_pass_0 rfl ?_
        refine V_getI 4 69 11 4 (nI a) rfl flX11_129 rfl rfl rfl (by decide) dX11_pass_1 rfl ?_
        refine V_aload_n 5 0 rfl _ rfl rfl dX11_pass_4 rfl ?_
        refine V_getI 8 69 11 3 (nI z) hT.1 flX11_132 rfl rfl rfl (by decide) dX11_pass_5 rfl ?_
        refine V_icmp_ge 39 11 rfl dX11_pass_8 rfl (fun c8 => absurd c8 (nI_ge c_l (by omega))) (fun c8 => ?_)
        refine V_aload_n 12 0 rfl _ rfl rfl dX11_pass_11 rfl ?_
        refine V_getR 15 69 11 9 71 (hRM 9) flX11_20 rfl rfl rfl (by decide) dX11_pass_12 rfl ?_
        refine V_aload_n 16 0 rfl _ rfl rfl dX11_pass_15 rfl ?_
        refine V_getI 19 69 11 4 (nI a) rfl flX11_129 rfl rfl rfl (by decide) dX11_pass_16 rfl ?_
        refine V_ialdN 20 71 600 a (nI (t a)) (hT.2.2.1 _ (by omega)) (by omega) (by decide) rfl (by decide) dX11_pass_19 rfl ?_
        refine V_callS (K' := 0) (S' := 0) 23 1 [.int (nI (t a))] mkX11_isSmall lkX11_139 rfl (Nat.le_of_ble_eq_true rfl) (Nat.le_of_ble_eq_true rfl) (Nat.le_of_ble_eq_true rfl) (Nat.le_of_ble_eq_true rfl) rfl rfl dX11_pass_20 rfl (c_X11_isSmall (fun e1 e2 => ?_) (fun e1 => ?_))
        · refine Kq_i (k' := 0) (sl' := 0) rfl rfl ?_
          have eS : le_ (t a) = true := le_iff.mpr ⟨(nI_leI (a := 97) (by omega) (by have := hT.2.2.2 a; omega)).mp e1, (nI_leI (b := 122) (by have := hT.2.2.2 a; omega) (by omega)).mp e2⟩
          rw [sc_go c_l eS] at hq
          refine V_if_eq 39 26 rfl dX11_pass_23 rfl (fun c23 => absurd c23 (by decide)) (fun c23 => ?_)
          refine V_aload_n 27 0 rfl _ rfl rfl dX11_pass_26 rfl ?_
          refine V_dup 28 rfl dX11_pass_27 rfl ?_
          refine V_getI 31 69 11 4 (nI a) rfl flX11_129 rfl rfl rfl (by decide) dX11_pass_28 rfl ?_
          refine V_iconst 32 (1) rfl dX11_pass_31 rfl ?_
          refine V_iadd 33 dX11_pass_32 rfl ?_
          refine V_rw (nI_add a 1) ?_
          refine V_putI 36 69 11 4 flX11_129 rfl rfl rfl (by decide) rfl dX11_pass_33 rfl ?_
          rw [lx_a]
          refine V_goto 0 rfl dX11_pass_36 ?_
          exact ih (a + 1) (by omega) (by omega) hq
        · refine Kq_i (k' := 0) (sl' := 0) rfl rfl ?_
          have eS : ¬ le_ (t a) = true := fun q => e1 ⟨nI_le (a := 97) (le_iff.mp q).1 (by have := hT.2.2.2 a; omega), nI_le (b := 122) (le_iff.mp q).2 (by omega)⟩
          rw [sc_st (fun h => eS h.2)] at hq
          refine V_if_eq 39 26 rfl dX11_pass_23 rfl (fun c23 => ?_) (fun c23 => absurd c23 (by decide))
          refine V_ret_v rfl (Nat.le_of_ble_eq_true rfl) (fun h => absurd h (by decide)) (Nat.le_of_ble_eq_true rfl) (hq) dX11_pass_39
      · rw [sc_st (fun h => c_l h.1)] at hq
        refine V_aload_n 1 0 rfl _ rfl rfl dX11_pass_0 rfl ?_
        refine V_getI 4 69 11 4 (nI a) rfl flX11_129 rfl rfl rfl (by decide) dX11_pass_1 rfl ?_
        refine V_aload_n 5 0 rfl _ rfl rfl dX11_pass_4 rfl ?_
        refine V_getI 8 69 11 3 (nI z) hT.1 flX11_132 rfl rfl rfl (by decide) dX11_pass_5 rfl ?_
        refine V_icmp_ge 39 11 rfl dX11_pass_8 rfl (fun c8 => ?_) (fun c8 => absurd (nI_le (show z ≤ a by omega) (by omega)) c8)
        refine V_ret_v rfl (Nat.le_of_ble_eq_true rfl) (fun h => absurd h (by decide)) (Nat.le_of_ble_eq_true rfl) (hq) dX11_pass_39
  exact key (z - a) a (Nat.le_refl _) ha hq
set_option maxHeartbeats 4000000 in
theorem c_X11_of {G : Gx} {d : Nat} {I : FI} {R : FR} {J : FJ} {Q : Po} {i : Nat} (hi : isWd i) (hq : Q (.inl (some (.int (nI (ocF i))))) 103 I R J) : Cc G mX11_of (d + 1 + 1 + 1 + 1) 0 0 [sr G i] 103 I R J Q := by
  obtain ⟨h0, h1, h2, h3⟩ := hi
  have L : ∀ j, j ≤ stL i → V G mX11_of (d + 1 + 1 + 1 + 1) 0 0 0 0 4 [(2, .int (nI j)), (1, .int (nI (cdF (fun j => stN i j - 96) j))), (0, sr G i)] [] 103 I R J Q := by
    refine loopd (stL i) ?_ (fun j hi ih => ?_)
    · refine V_iload_n 5 0 rfl rfl dX11_of_4 rfl ?_
      refine V_aload_n 6 2 rfl _ rfl rfl dX11_of_5 rfl ?_
      refine V_callT (K' := 0) (S' := 0) 9 i 0 [] mkJ0_length_8abf5 lkX11_143 h0 rfl rfl (Nat.le_of_ble_eq_true rfl) (Nat.le_of_ble_eq_true rfl) (Nat.le_of_ble_eq_true rfl) (Nat.le_of_ble_eq_true rfl) rfl rfl dX11_of_6 rfl (c_J0_length h0 ?_)
      refine Kq_i (k' := 0) (sl' := 0) rfl rfl ?_
      refine V_icmp_ge 31 12 rfl dX11_of_9 rfl (fun c9 => ?_) (fun c9 => absurd (Int32.le_refl _) c9)
      refine V_iload_n 32 1 rfl rfl dX11_of_31 rfl ?_
      refine V_ret_i rfl rfl (Nat.le_of_ble_eq_true rfl) (fun h => absurd h (by decide)) (Nat.le_of_ble_eq_true rfl) (hq) dX11_of_32
    · refine V_iload_n 5 0 rfl rfl dX11_of_4 rfl ?_
      refine V_aload_n 6 2 rfl _ rfl rfl dX11_of_5 rfl ?_
      refine V_callT (K' := 0) (S' := 0) 9 i 0 [] mkJ0_length_8abf5 lkX11_143 h0 rfl rfl (Nat.le_of_ble_eq_true rfl) (Nat.le_of_ble_eq_true rfl) (Nat.le_of_ble_eq_true rfl) (Nat.le_of_ble_eq_true rfl) rfl rfl dX11_of_6 rfl (c_J0_length h0 ?_)
      refine Kq_i (k' := 0) (sl' := 0) rfl rfl ?_
      refine V_icmp_ge 31 12 rfl dX11_of_9 rfl (fun c9 => absurd c9 (nI_ge hi (by omega))) (fun c9 => ?_)
      refine V_iload_n 13 1 rfl rfl dX11_of_12 rfl ?_
      refine V_iconst 14 (5) rfl dX11_of_13 rfl ?_
      refine V_ishl 15 dX11_of_14 rfl ?_
      refine V_aload_n 16 2 rfl _ rfl rfl dX11_of_15 rfl ?_
      refine V_iload_n 17 0 rfl rfl dX11_of_16 rfl ?_
      refine V_callT (K' := 0) (S' := 0) 20 i 1 [.int (nI j)] mkJ0_charAt_5068e lkX11_148 h0 rfl rfl (Nat.le_of_ble_eq_true rfl) (Nat.le_of_ble_eq_true rfl) (Nat.le_of_ble_eq_true rfl) (Nat.le_of_ble_eq_true rfl) rfl rfl dX11_of_17 rfl (c_J0_charAt h0 hi ?_)
      refine Kq_i (k' := 0) (sl' := 0) rfl rfl ?_
      refine V_bipush 22 (96) rfl dX11_of_20 rfl ?_
      refine V_isub 23 dX11_of_22 rfl ?_
      refine V_rw (show _ = nI (stN i j - 96) from pk_sub (b := 96) (by have := h3 j hi; omega)) ?_
      refine V_ior 24 dX11_of_23 rfl ?_
      refine V_rw (show _ = nI (cdF (fun j => stN i j - 96) (j + 1)) from by rw [ln5 (by have a := cd_lt (x := fun j => stN i j - 96) j (fun q hq => by have := h3 q (by omega); show stN i q - 96 < 32; omega); have b := p32' (show j < 6 by omega); omega) (by have := h3 j hi; omega)]; rfl) ?_
      refine V_istore_n 25 [(1, .int (nI (cdF (fun j => stN i j - 96) (j + 1)))), (2, .int (nI j)), (0, sr G i)] (by decide) rfl rfl dX11_of_24 rfl ?_
      refine V_iinc 28 1 rfl (nI (j + 1)) [(2, .int (nI (j + 1))), (1, .int (nI (cdF (fun j => stN i j - 96) (j + 1)))), (0, sr G i)] (nI_1 _) (by decide) rfl dX11_of_25 rfl ?_
      refine V_goto 4 rfl dX11_of_28 ?_
      exact V_lv [0, 1, 2] rfl (ih)
  show V _ _ _ _ _ _ _ _ [(0, sr G i)] [] _ _ _ _ _
  refine V_iconst 1 (0) rfl dX11_of_0 rfl ?_
  refine V_istore_n 2 [(1, .int 0), (0, sr G i)] (by decide) rfl rfl dX11_of_1 rfl ?_
  refine V_iconst 3 (0) rfl dX11_of_2 rfl ?_
  refine V_istore_n 4 [(2, .int 0), (1, .int 0), (0, sr G i)] (by decide) rfl rfl dX11_of_3 rfl ?_
  exact V_lv [0, 1, 2] rfl (L 0 (Nat.zero_le _))
theorem sc_mid {P : Nat → Bool} {t : Nat → Nat} {z p : Nat} (hp : p ≤ z) : ∀ {a : Nat}, p ≤ a → a ≤ sc P t z p → sc P t z p = sc P t z a := by
  intro a h1 h2
  obtain ⟨n, rfl⟩ : ∃ n, a = p + n := ⟨a - p, by omega⟩
  induction n with
  | zero => rfl
  | succ n ih =>
    rw [ih (by omega) (by omega)]
    exact sc_go (by have := (sc_z (P := P) (t := t) hp).2; omega) ((sc_le (P := P) (t := t) (z - p) p (Nat.le_refl _) hp).2.2 (p + n) (by omega) (by omega))
set_option maxHeartbeats 4000000 in
theorem c_X11_word {G : Gx} {d : Nat} {I : FI} {R : FR} {J : FJ} {Q : Po} (hRM : ∀ k, R 69 k = refM k) {t : Nat → Nat} {z : Nat} (hT : TxM I t z) {a : Nat} {b k : Int32} (ha : a ≤ z) (hq : Q (.inl (some (.int (nI (wcF t z (sk t z a)))))) 103 (lx I (sk t z a) b k) R J) : Cc G mX11_word (d + 1) 0 0 [rf G 69] 103 (lx I a b k) R J Q := by
  have h6 := hT.2.1
  show V _ _ _ _ _ _ _ _ [(0, rf G 69)] [] _ _ _ _ _
  obtain ⟨hs1, hs2, hs3⟩ := sk_z (t := t) ha
  obtain ⟨p, ep⟩ : ∃ p, p = sk t z a := ⟨_, rfl⟩
  rw [← ep] at hq hs1 hs2
  obtain ⟨hc1, hc2, hc3⟩ := sc_le (P := le_) (t := t) (z - p) p (Nat.le_refl _) hs2
  obtain ⟨N, eN⟩ : ∃ N, N = sc le_ t z p - p := ⟨_, rfl⟩
  have L : ∀ j, j ≤ N → V G mX11_word (d + 1) 0 0 0 0 14 [(3, .int (nI (p + j))), (2, .int (nI j)), (1, .int (nI (if j ≤ 6 then cdF (fun j => t (p + j) - 96) j else 0))), (0, rf G 69)] [] 103 (lx I p b k) R J Q := by
    refine loopd N ?_ (fun j hj ih => ?_)
    · have fin : V G mX11_word (d + 1) 0 0 0 0 67 [(3, .int (nI (p + N))), (2, .int (nI N)), (1, .int (nI (if N ≤ 6 then cdF (fun j => t (p + j) - 96) N else 0))), (0, rf G 69)] [] 103 (lx I p b k) R J Q := by
        unfold wcF at hq
        rw [← eN] at hq
        by_cases c6 : 6 < N
        · refine V_iload_n 68 1 rfl rfl dX11_word_67 rfl ?_
          refine V_bipush 70 (6) rfl dX11_word_68 rfl ?_
          refine V_icmp_le 77 73 rfl dX11_word_70 rfl (fun c70 => absurd c70 (nI_ge c6 (by omega))) (fun c70 => ?_)
          refine V_iconst 74 (0) rfl dX11_word_73 rfl ?_
          refine V_goto 78 rfl dX11_word_74 ?_
          refine V_ret_i rfl rfl (Nat.le_of_ble_eq_true rfl) (fun h => absurd h (by decide)) (Nat.le_of_ble_eq_true rfl) (by rw [if_pos c6] at hq; exact hq) dX11_word_78
        · refine V_iload_n 68 1 rfl rfl dX11_word_67 rfl ?_
          refine V_bipush 70 (6) rfl dX11_word_68 rfl ?_
          refine V_icmp_le 77 73 rfl dX11_word_70 rfl (fun c70 => ?_) (fun c70 => absurd (nI_le (b := 6) (by omega) (by decide)) c70)
          refine V_iload_n 78 2 rfl rfl dX11_word_77 rfl ?_
          refine V_ret_i rfl rfl (Nat.le_of_ble_eq_true rfl) (fun h => absurd h (by decide)) (Nat.le_of_ble_eq_true rfl) (by rw [if_neg c6] at hq; rw [if_pos (by omega)]; exact hq) dX11_word_78
      by_cases c_l : p + N < z
      · refine V_iload_n 15 0 rfl rfl dX11_word_14 rfl ?_
        refine V_aload_n 16 3 rfl _ rfl rfl dX11_word_15 rfl ?_
        refine V_getI 19 69 11 3 (nI z) hT.1 flX11_132 rfl rfl rfl (by decide) dX11_word_16 rfl ?_
        refine V_icmp_ge 67 22 rfl dX11_word_19 rfl (fun c19 => absurd c19 (nI_ge c_l (by omega))) (fun c19 => ?_)
        refine V_aload_n 23 3 rfl _ rfl rfl dX11_word_22 rfl ?_
        refine V_getR 26 69 11 9 71 (hRM 9) flX11_20 rfl rfl rfl (by decide) dX11_word_23 rfl ?_
        refine V_iload_n 27 0 rfl rfl dX11_word_26 rfl ?_
        refine V_ialdN 28 71 600 (p + N) (nI (t (p + N))) (hT.2.2.1 _ (by omega)) (by omega) (by decide) rfl (by decide) dX11_word_27 rfl ?_
        refine V_callS (K' := 0) (S' := 0) 31 1 [.int (nI (t (p + N)))] mkX11_isSmall lkX11_139 rfl (Nat.le_of_ble_eq_true rfl) (Nat.le_of_ble_eq_true rfl) (Nat.le_of_ble_eq_true rfl) (Nat.le_of_ble_eq_true rfl) rfl rfl dX11_word_28 rfl (c_X11_isSmall (fun e1 e2 => ?_) (fun e1 => ?_))
        · refine Kq_i (k' := 0) (sl' := 0) rfl rfl ?_
          refine V_if_eq 67 34 rfl dX11_word_31 rfl (fun c31 => absurd c31 (by decide)) (fun c31 => ?_)
          exfalso
          have eS : le_ (t (p + N)) = true := le_iff.mpr ⟨(nI_leI (a := 97) (by omega) (by have := hT.2.2.2 (p + N); omega)).mp e1, (nI_leI (b := 122) (by have := hT.2.2.2 (p + N); omega) (by omega)).mp e2⟩
          have q := sc_lt (P := le_) (t := t) c_l eS
          have q2 : sc le_ t z p = sc le_ t z (p + N) := sc_mid hs2 (by omega) (by omega)
          omega
        · refine Kq_i (k' := 0) (sl' := 0) rfl rfl ?_
          refine V_if_eq 67 34 rfl dX11_word_31 rfl (fun c31 => ?_) (fun c31 => absurd c31 (by decide))
          exact fin
      · refine V_iload_n 15 0 rfl rfl dX11_word_14 rfl ?_
        refine V_aload_n 16 3 rfl _ rfl rfl dX11_word_15 rfl ?_
        refine V_getI 19 69 11 3 (nI z) hT.1 flX11_132 rfl rfl rfl (by decide) dX11_word_16 rfl ?_
        refine V_icmp_ge 67 22 rfl dX11_word_19 rfl (fun c19 => ?_) (fun c19 => absurd (nI_le (show z ≤ p + N by omega) (by omega)) c19)
        exact fin
    · have hj97 := sc_all (t := t) (j := j) hs2 (by omega)
      by_cases c6 : j < 6
      · refine V_iload_n 15 0 rfl rfl dX11_word_14 rfl ?_
        refine V_aload_n 16 3 rfl _ rfl rfl dX11_word_15 rfl ?_
        refine V_getI 19 69 11 3 (nI z) hT.1 flX11_132 rfl rfl rfl (by decide) dX11_word_16 rfl ?_
        refine V_icmp_ge 67 22 rfl dX11_word_19 rfl (fun c19 => absurd c19 (nI_ge (show p + j < z by omega) (by omega))) (fun c19 => ?_)
        refine V_aload_n 23 3 rfl _ rfl rfl dX11_word_22 rfl ?_
        refine V_getR 26 69 11 9 71 (hRM 9) flX11_20 rfl rfl rfl (by decide) dX11_word_23 rfl ?_
        refine V_iload_n 27 0 rfl rfl dX11_word_26 rfl ?_
        refine V_ialdN 28 71 600 (p + j) (nI (t (p + j))) (hT.2.2.1 _ (by omega)) (by omega) (by decide) rfl (by decide) dX11_word_27 rfl ?_
        refine V_callS (K' := 0) (S' := 0) 31 1 [.int (nI (t (p + j)))] mkX11_isSmall lkX11_139 rfl (Nat.le_of_ble_eq_true rfl) (Nat.le_of_ble_eq_true rfl) (Nat.le_of_ble_eq_true rfl) (Nat.le_of_ble_eq_true rfl) rfl rfl dX11_word_28 rfl (c_X11_isSmall (fun e1 e2 => ?_) (fun e1 => absurd ⟨nI_le (a := 97) hj97.1 (by omega), nI_le (b := 122) hj97.2 (by omega)⟩ e1))
        refine Kq_i (k' := 0) (sl' := 0) rfl rfl ?_
        refine V_if_eq 67 34 rfl dX11_word_31 rfl (fun c31 => absurd c31 (by decide)) (fun c31 => ?_)
        refine V_iload_n 35 1 rfl rfl dX11_word_34 rfl ?_
        refine V_bipush 37 (6) rfl dX11_word_35 rfl ?_
        refine V_icmp_ge 56 40 rfl dX11_word_37 rfl (fun c37 => absurd c37 (nI_ge c6 (by decide))) (fun c37 => ?_)
        refine V_iload_n 41 2 rfl rfl dX11_word_40 rfl ?_
        refine V_iconst 42 (5) rfl dX11_word_41 rfl ?_
        refine V_ishl 43 dX11_word_42 rfl ?_
        refine V_aload_n 44 3 rfl _ rfl rfl dX11_word_43 rfl ?_
        refine V_getR 47 69 11 9 71 (hRM 9) flX11_20 rfl rfl rfl (by decide) dX11_word_44 rfl ?_
        refine V_iload_n 48 0 rfl rfl dX11_word_47 rfl ?_
        refine V_ialdN 49 71 600 (p + j) (nI (t (p + j))) (hT.2.2.1 _ (by omega)) (by omega) (by decide) rfl (by decide) dX11_word_48 rfl ?_
        refine V_bipush 51 (96) rfl dX11_word_49 rfl ?_
        refine V_isub 52 dX11_word_51 rfl ?_
        refine V_rw (show _ = nI (t (p + j) - 96) from pk_sub (b := 96) (by omega)) ?_
        refine V_ior 53 dX11_word_52 rfl ?_
        refine V_rw (show _ = nI (if (j + 1) ≤ 6 then cdF (fun j => t (p + j) - 96) (j + 1) else 0) from by rw [if_pos (by omega), if_pos (by omega), ln5 (by have a := cd_lt (x := fun j => t (p + j) - 96) j (fun q hq => by have := sc_all (t := t) (j := q) hs2 (by omega); show t (p + q) - 96 < 32; omega); have b := p32' (show j < 6 by omega); omega) (by omega)]; rfl) ?_
        refine V_goto 57 rfl dX11_word_53 ?_
        refine V_istore_n 58 [(1, .int (nI (if (j + 1) ≤ 6 then cdF (fun j => t (p + j) - 96) (j + 1) else 0))), (3, .int (nI (p + j))), (2, .int (nI j)), (0, rf G 69)] (by decide) rfl rfl dX11_word_57 rfl ?_
        refine V_iinc 61 2 rfl (nI (j + 1)) [(2, .int (nI (j + 1))), (1, .int (nI (if (j + 1) ≤ 6 then cdF (fun j => t (p + j) - 96) (j + 1) else 0))), (3, .int (nI (p + j))), (0, rf G 69)] (nI_1 _) (by decide) rfl dX11_word_58 rfl ?_
        refine V_iinc 64 2 rfl (nI (p + (j + 1))) [(3, .int (nI (p + (j + 1)))), (2, .int (nI (j + 1))), (1, .int (nI (if (j + 1) ≤ 6 then cdF (fun j => t (p + j) - 96) (j + 1) else 0))), (0, rf G 69)] (nI_1 _) (by decide) rfl dX11_word_61 rfl ?_
        refine V_goto 14 rfl dX11_word_64 ?_
        exact V_lv [0, 1, 2, 3] rfl ih
      · refine V_iload_n 15 0 rfl rfl dX11_word_14 rfl ?_
        refine V_aload_n 16 3 rfl _ rfl rfl dX11_word_15 rfl ?_
        refine V_getI 19 69 11 3 (nI z) hT.1 flX11_132 rfl rfl rfl (by decide) dX11_word_16 rfl ?_
        refine V_icmp_ge 67 22 rfl dX11_word_19 rfl (fun c19 => absurd c19 (nI_ge (show p + j < z by omega) (by omega))) (fun c19 => ?_)
        refine V_aload_n 23 3 rfl _ rfl rfl dX11_word_22 rfl ?_
        refine V_getR 26 69 11 9 71 (hRM 9) flX11_20 rfl rfl rfl (by decide) dX11_word_23 rfl ?_
        refine V_iload_n 27 0 rfl rfl dX11_word_26 rfl ?_
        refine V_ialdN 28 71 600 (p + j) (nI (t (p + j))) (hT.2.2.1 _ (by omega)) (by omega) (by decide) rfl (by decide) dX11_word_27 rfl ?_
        refine V_callS (K' := 0) (S' := 0) 31 1 [.int (nI (t (p + j)))] mkX11_isSmall lkX11_139 rfl (Nat.le_of_ble_eq_true rfl) (Nat.le_of_ble_eq_true rfl) (Nat.le_of_ble_eq_true rfl) (Nat.le_of_ble_eq_true rfl) rfl rfl dX11_word_28 rfl (c_X11_isSmall (fun e1 e2 => ?_) (fun e1 => absurd ⟨nI_le (a := 97) hj97.1 (by omega), nI_le (b := 122) hj97.2 (by omega)⟩ e1))
        refine Kq_i (k' := 0) (sl' := 0) rfl rfl ?_
        refine V_if_eq 67 34 rfl dX11_word_31 rfl (fun c31 => absurd c31 (by decide)) (fun c31 => ?_)
        refine V_iload_n 35 1 rfl rfl dX11_word_34 rfl ?_
        refine V_bipush 37 (6) rfl dX11_word_35 rfl ?_
        refine V_icmp_ge 56 40 rfl dX11_word_37 rfl (fun c37 => ?_) (fun c37 => absurd (nI_le (a := 6) (by omega) (by omega)) c37)
        refine V_iconst 57 (0) rfl dX11_word_56 rfl ?_
        refine V_rw (show _ = nI (if (j + 1) ≤ 6 then cdF (fun j => t (p + j) - 96) (j + 1) else 0) from by rw [if_neg (by omega)]; rfl) ?_
        refine V_istore_n 58 [(1, .int (nI (if (j + 1) ≤ 6 then cdF (fun j => t (p + j) - 96) (j + 1) else 0))), (3, .int (nI (p + j))), (2, .int (nI j)), (0, rf G 69)] (by decide) rfl rfl dX11_word_57 rfl ?_
        refine V_iinc 61 2 rfl (nI (j + 1)) [(2, .int (nI (j + 1))), (1, .int (nI (if (j + 1) ≤ 6 then cdF (fun j => t (p + j) - 96) (j + 1) else 0))), (3, .int (nI (p + j))), (0, rf G 69)] (nI_1 _) (by decide) rfl dX11_word_58 rfl ?_
        refine V_iinc 64 2 rfl (nI (p + (j + 1))) [(3, .int (nI (p + (j + 1)))), (2, .int (nI (j + 1))), (1, .int (nI (if (j + 1) ≤ 6 then cdF (fun j => t (p + j) - 96) (j + 1) else 0))), (0, rf G 69)] (nI_1 _) (by decide) rfl dX11_word_61 rfl ?_
        refine V_goto 14 rfl dX11_word_64 ?_
        exact V_lv [0, 1, 2, 3] rfl ih
  refine V_aload_n 1 0 rfl _ rfl rfl dX11_word_0 rfl ?_
  refine V_callV (K' := 0) (S' := 0) 4 69 11 0 [] mkX11_here lkX11_135 (by decide) rfl rfl (by decide) rfl (Nat.le_of_ble_eq_true rfl) (Nat.le_of_ble_eq_true rfl) (Nat.le_of_ble_eq_true rfl) (Nat.le_of_ble_eq_true rfl) rfl rfl dX11_word_1 rfl (c_X11_here hRM hT ha ?_)
  rw [← ep]
  refine Kq_i (k' := 0) (sl' := 0) rfl rfl ?_
  refine V_pop 5 rfl dX11_word_4 rfl ?_
  refine V_iconst 6 (0) rfl dX11_word_5 rfl ?_
  refine V_istore_n 7 [(1, .int 0), (0, rf G 69)] (by decide) rfl rfl dX11_word_6 rfl ?_
  refine V_iconst 8 (0) rfl dX11_word_7 rfl ?_
  refine V_istore_n 9 [(2, .int 0), (1, .int 0), (0, rf G 69)] (by decide) rfl rfl dX11_word_8 rfl ?_
  refine V_aload_n 10 2 rfl _ rfl rfl dX11_word_9 rfl ?_
  refine V_getI 13 69 11 4 (nI p) rfl flX11_129 rfl rfl rfl (by decide) dX11_word_10 rfl ?_
  refine V_istore_n 14 [(3, .int (nI p)), (2, .int 0), (1, .int 0), (0, rf G 69)] (by decide) rfl rfl dX11_word_13 rfl ?_
  exact V_lv [0, 1, 2, 3] rfl (L 0 (Nat.zero_le _))
set_option maxHeartbeats 4000000 in
theorem c_X11_readNumber {G : Gx} {d : Nat} {I : FI} {R : FR} {J : FJ} {Q : Po} (hRM : ∀ k, R 69 k = refM k) {t : Nat → Nat} {z : Nat} (hT : TxM I t z) {a : Nat} {b k : Int32} {lo cnt : Nat} {hi : Int32} (hlo : lo < 1000) (hcn : cnt ≤ 1000) (hh : ∀ v, v ≤ 1000000 → (nI v ≤ hi ↔ v < cnt)) (ha : a ≤ z) (h1 : ¬ b = -1 → Q (.inl (some (.int 0))) 103 (lx I a b k) R J) (hk : ∀ v, b = -1 → pNum t z lo cnt (sk t z a) = .inr (v, sk t z (enF t z (sk t z a))) → Q (.inl (some (.int (nI v)))) 103 (lx I (enF t z (sk t z a)) b k) R J) (hb : ∀ kd a', a' ≤ z → b = -1 → pNum t z lo cnt (sk t z a) = .inl (kd, sk t z a) → Q (.inl (some (.int 0))) 103 (lx I a' (nI (sk t z a)) (nI kd)) R J) : Cc G mX11_readNumber (d + 1) 0 0 [rf G 69, .int (nI lo), .int hi] 103 (lx I a b k) R J Q := by
  have h6 := hT.2.1
  show V _ _ _ _ _ _ _ _ [(0, rf G 69), (1, .int (nI lo)), (2, .int hi)] [] _ _ _ _ _
  by_cases cb : b = -1
  · obtain ⟨hs1, hs2, hs3⟩ := sk_z (t := t) ha
    obtain ⟨p, ep⟩ : ∃ p, p = sk t z a := ⟨_, rfl⟩
    rw [← ep] at hk hb hs1 hs2
    by_cases cn : p < z ∧ dg (t p) = true
    · have hn : nuF t z p = nvF t (sc dg t z p - p) p 0 := by unfold nuF; rw [if_neg (by omega), if_pos cn.2]
      have en : enF t z p = sc dg t z p := by unfold enF; rw [if_neg (by omega), if_pos cn.2]
      have rl : Rl (nuF t z p) (mvF t (sc dg t z p - p) p 0) := by rw [hn]; exact nm_rel _ _ _ _ (fun j hj => dg_iff.mp ((sc_le (P := dg) (t := t) (z - p) p (Nat.le_refl _) hs2).2.2 (p + j) (by omega) (by omega))) (Or.inl ⟨rfl, by decide⟩)
      have key : ∀ f q v, z - q ≤ f → p ≤ q → q ≤ z → v ≤ 99999 → sc dg t z q = sc dg t z p → mvF t (sc dg t z q - q) q v = mvF t (sc dg t z p - p) p 0 → V G mX11_readNumber (d + 1) 0 0 0 0 41 [(5, .int (nI v)), (4, .int (nI p)), (0, rf G 69), (1, .int (nI lo)), (2, .int hi)] [] 103 (lx I q b k) R J Q := by
        have fin : ∀ v, v ≤ 99999 → v = mvF t (sc dg t z p - p) p 0 → V G mX11_readNumber (d + 1) 0 0 0 0 114 [(5, .int (nI v)), (4, .int (nI p)), (0, rf G 69), (1, .int (nI lo)), (2, .int hi)] [] 103 (lx I (enF t z p) b k) R J Q := by
          intro v hv ev
          rw [← ev] at rl
          by_cases cr : lo ≤ nuF t z p ∧ nuF t z p < cnt
          · have e2 : v = nuF t z p := by rcases rl with q | q <;> omega
            have hk2 := hk (nuF t z p) cb (by unfold pNum; rw [if_pos cn, if_pos cr]; rfl)
            rw [← e2] at hk2
            refine V_iload 116 0 rfl dX11_readNumber_114 rfl ?_
            refine V_iload_n 117 3 rfl rfl dX11_readNumber_116 rfl ?_
            refine V_icmp_lt 126 120 rfl dX11_readNumber_117 rfl (fun c117 => absurd c117 (nI_nlt (show lo ≤ v by omega) (by omega))) (fun c117 => ?_)
            refine V_iload 122 0 rfl dX11_readNumber_120 rfl ?_
            refine V_iload_n 123 4 rfl rfl dX11_readNumber_122 rfl ?_
            refine V_icmp_le 135 126 rfl dX11_readNumber_123 rfl (fun c123 => ?_) (fun c123 => absurd ((hh v (by omega)).mpr (by omega)) c123)
            refine V_iload 137 0 rfl dX11_readNumber_135 rfl ?_
            refine V_ret_i rfl rfl (Nat.le_of_ble_eq_true rfl) (fun h => absurd h (by decide)) (Nat.le_of_ble_eq_true rfl) (hk2) dX11_readNumber_137
          · have hb2 := hb 2 (enF t z p) (enF_z hs2).2.1 cb (by unfold pNum; rw [if_pos cn, if_neg cr])
            refine V_iload 116 0 rfl dX11_readNumber_114 rfl ?_
            refine V_iload_n 117 3 rfl rfl dX11_readNumber_116 rfl ?_
            refine V_icmp_lt 126 120 rfl dX11_readNumber_117 rfl (fun c117 => ?_) (fun c117 => ?_)
            · refine V_aload_n 127 2 rfl _ rfl rfl dX11_readNumber_126 rfl ?_
              refine V_iconst 128 (2) rfl dX11_readNumber_127 rfl ?_
              refine V_iload 130 1 rfl dX11_readNumber_128 rfl ?_
              refine V_callV (K' := 0) (S' := 0) 133 69 11 2 [.int 2, .int (nI p)] mkX11_wrong lkX11_159 (by decide) rfl rfl (by decide) rfl (Nat.le_of_ble_eq_true rfl) (Nat.le_of_ble_eq_true rfl) (Nat.le_of_ble_eq_true rfl) (Nat.le_of_ble_eq_true rfl) rfl rfl dX11_readNumber_130 rfl (c_X11_wrong (kd := 2) (q := p) (fun e => absurd cb e) (fun _ => ?_))
              refine Kq_v (k' := 0) (sl' := 0) rfl rfl ?_
              refine V_iconst 134 (0) rfl dX11_readNumber_133 rfl ?_
              refine V_ret_i rfl rfl (Nat.le_of_ble_eq_true rfl) (fun h => absurd h (by decide)) (Nat.le_of_ble_eq_true rfl) (hb2) dX11_readNumber_134
            · refine V_iload 122 0 rfl dX11_readNumber_120 rfl ?_
              refine V_iload_n 123 4 rfl rfl dX11_readNumber_122 rfl ?_
              refine V_icmp_le 135 126 rfl dX11_readNumber_123 rfl (fun c123 => ?_) (fun c123 => ?_)
              · exfalso
                have q1 := (nI_leI (by omega) (by omega)).mp (Int32.not_lt.mp c117)
                have q2 := (hh v (by omega)).mp c123
                refine cr ?_
                rcases rl with q | q <;> omega
              · refine V_aload_n 127 2 rfl _ rfl rfl dX11_readNumber_126 rfl ?_
                refine V_iconst 128 (2) rfl dX11_readNumber_127 rfl ?_
                refine V_iload 130 1 rfl dX11_readNumber_128 rfl ?_
                refine V_callV (K' := 0) (S' := 0) 133 69 11 2 [.int 2, .int (nI p)] mkX11_wrong lkX11_159 (by decide) rfl rfl (by decide) rfl (Nat.le_of_ble_eq_true rfl) (Nat.le_of_ble_eq_true rfl) (Nat.le_of_ble_eq_true rfl) (Nat.le_of_ble_eq_true rfl) rfl rfl dX11_readNumber_130 rfl (c_X11_wrong (kd := 2) (q := p) (fun e => absurd cb e) (fun _ => ?_))
                refine Kq_v (k' := 0) (sl' := 0) rfl rfl ?_
                refine V_iconst 134 (0) rfl dX11_readNumber_133 rfl ?_
                refine V_ret_i rfl rfl (Nat.le_of_ble_eq_true rfl) (fun h => absurd h (by decide)) (Nat.le_of_ble_eq_true rfl) (hb2) dX11_readNumber_134
        intro f
        induction f with
        | zero =>
          intro q v hf hpq hq hv e1 e2
          have c_l : ¬ q < z := by omega
          rw [mvF_st (fun h => c_l h.1)] at e2
          rw [sc_st (fun h => c_l h.1)] at e1
          rw [show q = enF t z p by omega]
          refine V_aload_n 42 2 rfl _ rfl rfl dX11_readNumber_41 rfl ?_
          refine V_getI 45 69 11 4 (nI (enF t z p)) rfl flX11_129 rfl rfl rfl (by decide) dX11_readNumber_42 rfl ?_
          refine V_aload_n 46 2 rfl _ rfl rfl dX11_readNumber_45 rfl ?_
          refine V_getI 49 69 11 3 (nI z) hT.1 flX11_132 rfl rfl rfl (by decide) dX11_readNumber_46 rfl ?_
          refine V_icmp_ge 114 52 rfl dX11_readNumber_49 rfl (fun c49 => ?_) (fun c49 => absurd (nI_le (show z ≤ enF t z p by omega) (by omega)) c49)
          exact fin v hv e2
        | succ f ih =>
          intro q v hf hpq hq hv e1 e2
          by_cases c_l : q < z ∧ dg (t q) = true
          · have d1 := dg_iff.mp c_l.2
            rw [mvF_go c_l.1 c_l.2] at e2
            rw [sc_go c_l.1 c_l.2] at e1
            by_cases c9 : 9999 < v
            · refine V_aload_n 42 2 rfl _ rfl rfl dX11_readNumber_41 rfl ?_
              refine V_getI 45 69 11 4 (nI q) rfl flX11_129 rfl rfl rfl (by decide) dX11_readNumber_42 rfl ?_
              refine V_aload_n 46 2 rfl _ rfl rfl dX11_readNumber_45 rfl ?_
              refine V_getI 49 69 11 3 (nI z) hT.1 flX11_132 rfl rfl rfl (by decide) dX11_readNumber_46 rfl ?_
              refine V_icmp_ge 114 52 rfl dX11_readNumber_49 rfl (fun c49 => absurd c49 (nI_ge c_l.1 (by omega))) (fun c49 => ?_)
              refine V_aload_n 53 2 rfl _ rfl rfl dX11_readNumber_52 rfl ?_
              refine V_getR 56 69 11 9 71 (hRM 9) flX11_20 rfl rfl rfl (by decide) dX11_readNumber_53 rfl ?_
              refine V_aload_n 57 2 rfl _ rfl rfl dX11_readNumber_56 rfl ?_
              refine V_getI 60 69 11 4 (nI q) rfl flX11_129 rfl rfl rfl (by decide) dX11_readNumber_57 rfl ?_
              refine V_ialdN 61 71 600 q (nI (t q)) (hT.2.2.1 _ (by omega)) (by omega) (by decide) rfl (by decide) dX11_readNumber_60 rfl ?_
              refine V_callS (K' := 0) (S' := 0) 64 1 [.int (nI (t q))] mkX11_isDigit lkX11_156 rfl (Nat.le_of_ble_eq_true rfl) (Nat.le_of_ble_eq_true rfl) (Nat.le_of_ble_eq_true rfl) (Nat.le_of_ble_eq_true rfl) rfl rfl dX11_readNumber_61 rfl (c_X11_isDigit (fun e3 e4 => ?_) (fun e3 => absurd ⟨nI_le (a := 48) (dg_iff.mp c_l.2).1 (by have := hT.2.2.2 q; omega), nI_le (b := 57) (dg_iff.mp c_l.2).2 (by omega)⟩ e3))
              refine Kq_i (k' := 0) (sl' := 0) rfl rfl ?_
              refine V_if_eq 114 67 rfl dX11_readNumber_64 rfl (fun c64 => absurd c64 (by decide)) (fun c64 => ?_)
              refine V_iload 69 0 rfl dX11_readNumber_67 rfl ?_
              refine V_sipush 72 (9999) rfl dX11_readNumber_69 rfl ?_
              refine V_icmp_le 81 75 rfl dX11_readNumber_72 rfl (fun c72 => absurd c72 (nI_ge (a := 9999) c9 (by omega))) (fun c72 => ?_)
              refine V_sipush 78 (10000) rfl dX11_readNumber_75 rfl ?_
              refine V_goto 99 rfl dX11_readNumber_78 ?_
              rw [if_pos c9] at e2
              refine V_rw (show (10000 : Int32) = nI 10000 from rfl) ?_
              refine V_istore 101 [(5, .int (nI 10000)), (4, .int (nI p)), (0, rf G 69), (1, .int (nI lo)), (2, .int hi)] (by decide) rfl dX11_readNumber_99 rfl ?_
              refine V_aload_n 102 2 rfl _ rfl rfl dX11_readNumber_101 rfl ?_
              refine V_dup 103 rfl dX11_readNumber_102 rfl ?_
              refine V_getI 106 69 11 4 (nI q) rfl flX11_129 rfl rfl rfl (by decide) dX11_readNumber_103 rfl ?_
              refine V_iconst 107 (1) rfl dX11_readNumber_106 rfl ?_
              refine V_iadd 108 dX11_readNumber_107 rfl ?_
              refine V_rw (nI_1 q) ?_
              refine V_putI 111 69 11 4 flX11_129 rfl rfl rfl (by decide) rfl dX11_readNumber_108 rfl ?_
              rw [lx_a]
              refine V_goto 41 rfl dX11_readNumber_111 ?_
              exact V_lv [0, 1, 2, 3, 4] rfl (ih (q + 1) _ (by omega) (by omega) (by omega) (by omega) e1 e2)
            · refine V_aload_n 42 2 rfl _ rfl rfl dX11_readNumber_41 rfl ?_
              refine V_getI 45 69 11 4 (nI q) rfl flX11_129 rfl rfl rfl (by decide) dX11_readNumber_42 rfl ?_
              refine V_aload_n 46 2 rfl _ rfl rfl dX11_readNumber_45 rfl ?_
              refine V_getI 49 69 11 3 (nI z) hT.1 flX11_132 rfl rfl rfl (by decide) dX11_readNumber_46 rfl ?_
              refine V_icmp_ge 114 52 rfl dX11_readNumber_49 rfl (fun c49 => absurd c49 (nI_ge c_l.1 (by omega))) (fun c49 => ?_)
              refine V_aload_n 53 2 rfl _ rfl rfl dX11_readNumber_52 rfl ?_
              refine V_getR 56 69 11 9 71 (hRM 9) flX11_20 rfl rfl rfl (by decide) dX11_readNumber_53 rfl ?_
              refine V_aload_n 57 2 rfl _ rfl rfl dX11_readNumber_56 rfl ?_
              refine V_getI 60 69 11 4 (nI q) rfl flX11_129 rfl rfl rfl (by decide) dX11_readNumber_57 rfl ?_
              refine V_ialdN 61 71 600 q (nI (t q)) (hT.2.2.1 _ (by omega)) (by omega) (by decide) rfl (by decide) dX11_readNumber_60 rfl ?_
              refine V_callS (K' := 0) (S' := 0) 64 1 [.int (nI (t q))] mkX11_isDigit lkX11_156 rfl (Nat.le_of_ble_eq_true rfl) (Nat.le_of_ble_eq_true rfl) (Nat.le_of_ble_eq_true rfl) (Nat.le_of_ble_eq_true rfl) rfl rfl dX11_readNumber_61 rfl (c_X11_isDigit (fun e3 e4 => ?_) (fun e3 => absurd ⟨nI_le (a := 48) (dg_iff.mp c_l.2).1 (by have := hT.2.2.2 q; omega), nI_le (b := 57) (dg_iff.mp c_l.2).2 (by omega)⟩ e3))
              refine Kq_i (k' := 0) (sl' := 0) rfl rfl ?_
              refine V_if_eq 114 67 rfl dX11_readNumber_64 rfl (fun c64 => absurd c64 (by decide)) (fun c64 => ?_)
              refine V_iload 69 0 rfl dX11_readNumber_67 rfl ?_
              refine V_sipush 72 (9999) rfl dX11_readNumber_69 rfl ?_
              refine V_icmp_le 81 75 rfl dX11_readNumber_72 rfl (fun c72 => ?_) (fun c72 => absurd (nI_le (b := 9999) (by omega) (by decide)) c72)
              refine V_bipush 83 (10) rfl dX11_readNumber_81 rfl ?_
              refine V_iload 85 0 rfl dX11_readNumber_83 rfl ?_
              refine V_imul 86 dX11_readNumber_85 rfl ?_
              refine V_aload_n 87 2 rfl _ rfl rfl dX11_readNumber_86 rfl ?_
              refine V_getR 90 69 11 9 71 (hRM 9) flX11_20 rfl rfl rfl (by decide) dX11_readNumber_87 rfl ?_
              refine V_aload_n 91 2 rfl _ rfl rfl dX11_readNumber_90 rfl ?_
              refine V_getI 94 69 11 4 (nI q) rfl flX11_129 rfl rfl rfl (by decide) dX11_readNumber_91 rfl ?_
              refine V_ialdN 95 71 600 q (nI (t q)) (hT.2.2.1 _ (by omega)) (by omega) (by decide) rfl (by decide) dX11_readNumber_94 rfl ?_
              refine V_iadd 96 dX11_readNumber_95 rfl ?_
              refine V_bipush 98 (48) rfl dX11_readNumber_96 rfl ?_
              refine V_isub 99 dX11_readNumber_98 rfl ?_
              rw [if_neg c9] at e2
              refine V_rw (show _ = nI (10 * v + t q - 48) from by rw [show (10 : Int32) = nI 10 from rfl, pk_mul, nI_add]; exact pk_sub (b := 48) (by omega)) ?_
              refine V_istore 101 [(5, .int (nI (10 * v + t q - 48))), (4, .int (nI p)), (0, rf G 69), (1, .int (nI lo)), (2, .int hi)] (by decide) rfl dX11_readNumber_99 rfl ?_
              refine V_aload_n 102 2 rfl _ rfl rfl dX11_readNumber_101 rfl ?_
              refine V_dup 103 rfl dX11_readNumber_102 rfl ?_
              refine V_getI 106 69 11 4 (nI q) rfl flX11_129 rfl rfl rfl (by decide) dX11_readNumber_103 rfl ?_
              refine V_iconst 107 (1) rfl dX11_readNumber_106 rfl ?_
              refine V_iadd 108 dX11_readNumber_107 rfl ?_
              refine V_rw (nI_1 q) ?_
              refine V_putI 111 69 11 4 flX11_129 rfl rfl rfl (by decide) rfl dX11_readNumber_108 rfl ?_
              rw [lx_a]
              refine V_goto 41 rfl dX11_readNumber_111 ?_
              exact V_lv [0, 1, 2, 3, 4] rfl (ih (q + 1) _ (by omega) (by omega) (by omega) (by omega) e1 e2)
          · rw [mvF_st c_l] at e2
            rw [sc_st c_l] at e1
            rw [show q = enF t z p by omega] at c_l ⊢
            refine V_aload_n 42 2 rfl _ rfl rfl dX11_readNumber_41 rfl ?_
            refine V_getI 45 69 11 4 (nI (enF t z p)) rfl flX11_129 rfl rfl rfl (by decide) dX11_readNumber_42 rfl ?_
            refine V_aload_n 46 2 rfl _ rfl rfl dX11_readNumber_45 rfl ?_
            refine V_getI 49 69 11 3 (nI z) hT.1 flX11_132 rfl rfl rfl (by decide) dX11_readNumber_46 rfl ?_
            refine V_icmp_ge 114 52 rfl dX11_readNumber_49 rfl (fun c49 => ?_) (fun c49 => ?_)
            · exact fin v hv e2
            · refine V_aload_n 53 2 rfl _ rfl rfl dX11_readNumber_52 rfl ?_
              refine V_getR 56 69 11 9 71 (hRM 9) flX11_20 rfl rfl rfl (by decide) dX11_readNumber_53 rfl ?_
              refine V_aload_n 57 2 rfl _ rfl rfl dX11_readNumber_56 rfl ?_
              refine V_getI 60 69 11 4 (nI (enF t z p)) rfl flX11_129 rfl rfl rfl (by decide) dX11_readNumber_57 rfl ?_
              refine V_ialdN 61 71 600 (enF t z p) (nI (t (enF t z p))) (hT.2.2.1 _ (by have q5 := (nI_ltI (by omega) (by omega)).mp (Int32.not_le.mp c49); omega)) (by have q5 := (nI_ltI (by omega) (by omega)).mp (Int32.not_le.mp c49); omega) (by decide) rfl (by decide) dX11_readNumber_60 rfl ?_
              refine V_callS (K' := 0) (S' := 0) 64 1 [.int (nI (t (enF t z p)))] mkX11_isDigit lkX11_156 rfl (Nat.le_of_ble_eq_true rfl) (Nat.le_of_ble_eq_true rfl) (Nat.le_of_ble_eq_true rfl) (Nat.le_of_ble_eq_true rfl) rfl rfl dX11_readNumber_61 rfl (c_X11_isDigit (fun e3 e4 => ?_) (fun e3 => ?_))
              · refine Kq_i (k' := 0) (sl' := 0) rfl rfl ?_
                refine V_if_eq 114 67 rfl dX11_readNumber_64 rfl (fun c64 => absurd c64 (by decide)) (fun c64 => ?_)
                exact absurd ⟨(nI_ltI (by omega) (by omega)).mp (Int32.not_le.mp c49), dg_iff.mpr ⟨(nI_leI (a := 48) (by omega) (by have := hT.2.2.2 (enF t z p); omega)).mp e3, (nI_leI (b := 57) (by have := hT.2.2.2 (enF t z p); omega) (by omega)).mp e4⟩⟩ c_l
              · refine Kq_i (k' := 0) (sl' := 0) rfl rfl ?_
                refine V_if_eq 114 67 rfl dX11_readNumber_64 rfl (fun c64 => ?_) (fun c64 => absurd c64 (by decide))
                exact fin v hv e2
      refine V_aload_n 1 0 rfl _ rfl rfl dX11_readNumber_0 rfl ?_
      refine V_callV (K' := 0) (S' := 0) 4 69 11 0 [] mkX11_fine lkX11_152 (by decide) rfl rfl (by decide) rfl (Nat.le_of_ble_eq_true rfl) (Nat.le_of_ble_eq_true rfl) (Nat.le_of_ble_eq_true rfl) (Nat.le_of_ble_eq_true rfl) rfl rfl dX11_readNumber_1 rfl (c_X11_fine (fun _ => ?_) (fun e => absurd cb e))
      refine Kq_i (k' := 0) (sl' := 0) rfl rfl ?_
      refine V_if_ne 9 7 rfl dX11_readNumber_4 rfl (fun c4 => ?_) (fun c4 => absurd c4 (by decide))
      refine V_aload_n 10 0 rfl _ rfl rfl dX11_readNumber_9 rfl ?_
      refine V_callV (K' := 0) (S' := 0) 13 69 11 0 [] mkX11_here lkX11_135 (by decide) rfl rfl (by decide) rfl (Nat.le_of_ble_eq_true rfl) (Nat.le_of_ble_eq_true rfl) (Nat.le_of_ble_eq_true rfl) (Nat.le_of_ble_eq_true rfl) rfl rfl dX11_readNumber_10 rfl (c_X11_here hRM hT ha ?_)
      rw [← ep]
      rw [if_pos cn.1]
      refine Kq_i (k' := 0) (sl' := 0) rfl rfl ?_
      refine V_istore_n 14 [(3, .int (nI (t p))), (0, rf G 69), (1, .int (nI lo)), (2, .int hi)] (by decide) rfl rfl dX11_readNumber_13 rfl ?_
      refine V_aload_n 15 1 rfl _ rfl rfl dX11_readNumber_14 rfl ?_
      refine V_getI 18 69 11 4 (nI p) rfl flX11_129 rfl rfl rfl (by decide) dX11_readNumber_15 rfl ?_
      refine V_istore 20 [(4, .int (nI p)), (3, .int (nI (t p))), (0, rf G 69), (1, .int (nI lo)), (2, .int hi)] (by decide) rfl dX11_readNumber_18 rfl ?_
      refine V_iconst 21 (0) rfl dX11_readNumber_20 rfl ?_
      refine V_istore 23 [(5, .int 0), (4, .int (nI p)), (3, .int (nI (t p))), (0, rf G 69), (1, .int (nI lo)), (2, .int hi)] (by decide) rfl dX11_readNumber_21 rfl ?_
      refine V_iload_n 24 2 rfl rfl dX11_readNumber_23 rfl ?_
      refine V_callS (K' := 0) (S' := 0) 27 1 [.int (nI (t p))] mkX11_isDigit lkX11_156 rfl (Nat.le_of_ble_eq_true rfl) (Nat.le_of_ble_eq_true rfl) (Nat.le_of_ble_eq_true rfl) (Nat.le_of_ble_eq_true rfl) rfl rfl dX11_readNumber_24 rfl (c_X11_isDigit (fun e3 e4 => ?_) (fun e3 => absurd ⟨nI_le (a := 48) (dg_iff.mp cn.2).1 (by have := hT.2.2.2 p; omega), nI_le (b := 57) (dg_iff.mp cn.2).2 (by omega)⟩ e3))
      refine Kq_i (k' := 0) (sl' := 0) rfl rfl ?_
      refine V_if_ne 41 30 rfl dX11_readNumber_27 rfl (fun c27 => ?_) (fun c27 => absurd c27 (by decide))
      exact V_lv [0, 1, 3, 4, 5] rfl (key (z - p) p 0 (Nat.le_refl _) (Nat.le_refl _) hs2 (by omega) rfl rfl)
    · have hb2 := hb 1 p hs2 cb (if_neg cn)
      by_cases cz : p < z
      · refine V_aload_n 1 0 rfl _ rfl rfl dX11_readNumber_0 rfl ?_
        refine V_callV (K' := 0) (S' := 0) 4 69 11 0 [] mkX11_fine lkX11_152 (by decide) rfl rfl (by decide) rfl (Nat.le_of_ble_eq_true rfl) (Nat.le_of_ble_eq_true rfl) (Nat.le_of_ble_eq_true rfl) (Nat.le_of_ble_eq_true rfl) rfl rfl dX11_readNumber_1 rfl (c_X11_fine (fun _ => ?_) (fun e => absurd cb e))
        refine Kq_i (k' := 0) (sl' := 0) rfl rfl ?_
        refine V_if_ne 9 7 rfl dX11_readNumber_4 rfl (fun c4 => ?_) (fun c4 => absurd c4 (by decide))
        refine V_aload_n 10 0 rfl _ rfl rfl dX11_readNumber_9 rfl ?_
        refine V_callV (K' := 0) (S' := 0) 13 69 11 0 [] mkX11_here lkX11_135 (by decide) rfl rfl (by decide) rfl (Nat.le_of_ble_eq_true rfl) (Nat.le_of_ble_eq_true rfl) (Nat.le_of_ble_eq_true rfl) (Nat.le_of_ble_eq_true rfl) rfl rfl dX11_readNumber_10 rfl (c_X11_here hRM hT ha ?_)
        rw [← ep]
        rw [if_pos cz]
        refine Kq_i (k' := 0) (sl' := 0) rfl rfl ?_
        refine V_istore_n 14 [(3, .int (nI (t p))), (0, rf G 69), (1, .int (nI lo)), (2, .int hi)] (by decide) rfl rfl dX11_readNumber_13 rfl ?_
        refine V_aload_n 15 1 rfl _ rfl rfl dX11_readNumber_14 rfl ?_
        refine V_getI 18 69 11 4 (nI p) rfl flX11_129 rfl rfl rfl (by decide) dX11_readNumber_15 rfl ?_
        refine V_istore 20 [(4, .int (nI p)), (3, .int (nI (t p))), (0, rf G 69), (1, .int (nI lo)), (2, .int hi)] (by decide) rfl dX11_readNumber_18 rfl ?_
        refine V_iconst 21 (0) rfl dX11_readNumber_20 rfl ?_
        refine V_istore 23 [(5, .int 0), (4, .int (nI p)), (3, .int (nI (t p))), (0, rf G 69), (1, .int (nI lo)), (2, .int hi)] (by decide) rfl dX11_readNumber_21 rfl ?_
        refine V_iload_n 24 2 rfl rfl dX11_readNumber_23 rfl ?_
        refine V_callS (K' := 0) (S' := 0) 27 1 [.int (nI (t p))] mkX11_isDigit lkX11_156 rfl (Nat.le_of_ble_eq_true rfl) (Nat.le_of_ble_eq_true rfl) (Nat.le_of_ble_eq_true rfl) (Nat.le_of_ble_eq_true rfl) rfl rfl dX11_readNumber_24 rfl (c_X11_isDigit (fun e3 e4 => absurd ⟨cz, dg_iff.mpr ⟨(nI_leI (a := 48) (by omega) (by have := hT.2.2.2 p; omega)).mp e3, (nI_leI (b := 57) (by have := hT.2.2.2 p; omega) (by omega)).mp e4⟩⟩ cn) (fun e3 => ?_))
        refine Kq_i (k' := 0) (sl' := 0) rfl rfl ?_
        refine V_if_ne 41 30 rfl dX11_readNumber_27 rfl (fun c27 => absurd c27 (by decide)) (fun c27 => ?_)
        refine V_aload_n 31 3 rfl _ rfl rfl dX11_readNumber_30 rfl ?_
        refine V_iconst 32 (1) rfl dX11_readNumber_31 rfl ?_
        refine V_aload_n 33 3 rfl _ rfl rfl dX11_readNumber_32 rfl ?_
        refine V_getI 36 69 11 4 (nI p) rfl flX11_129 rfl rfl rfl (by decide) dX11_readNumber_33 rfl ?_
        refine V_callV (K' := 0) (S' := 0) 39 69 11 2 [.int 1, .int (nI p)] mkX11_wrong lkX11_159 (by decide) rfl rfl (by decide) rfl (Nat.le_of_ble_eq_true rfl) (Nat.le_of_ble_eq_true rfl) (Nat.le_of_ble_eq_true rfl) (Nat.le_of_ble_eq_true rfl) rfl rfl dX11_readNumber_36 rfl (c_X11_wrong (kd := 1) (q := p) (fun e => absurd cb e) (fun _ => ?_))
        refine Kq_v (k' := 0) (sl' := 0) rfl rfl ?_
        refine V_iconst 40 (0) rfl dX11_readNumber_39 rfl ?_
        refine V_ret_i rfl rfl (Nat.le_of_ble_eq_true rfl) (fun h => absurd h (by decide)) (Nat.le_of_ble_eq_true rfl) (hb2) dX11_readNumber_40
      · refine V_aload_n 1 0 rfl _ rfl rfl dX11_readNumber_0 rfl ?_
        refine V_callV (K' := 0) (S' := 0) 4 69 11 0 [] mkX11_fine lkX11_152 (by decide) rfl rfl (by decide) rfl (Nat.le_of_ble_eq_true rfl) (Nat.le_of_ble_eq_true rfl) (Nat.le_of_ble_eq_true rfl) (Nat.le_of_ble_eq_true rfl) rfl rfl dX11_readNumber_1 rfl (c_X11_fine (fun _ => ?_) (fun e => absurd cb e))
        refine Kq_i (k' := 0) (sl' := 0) rfl rfl ?_
        refine V_if_ne 9 7 rfl dX11_readNumber_4 rfl (fun c4 => ?_) (fun c4 => absurd c4 (by decide))
        refine V_aload_n 10 0 rfl _ rfl rfl dX11_readNumber_9 rfl ?_
        refine V_callV (K' := 0) (S' := 0) 13 69 11 0 [] mkX11_here lkX11_135 (by decide) rfl rfl (by decide) rfl (Nat.le_of_ble_eq_true rfl) (Nat.le_of_ble_eq_true rfl) (Nat.le_of_ble_eq_true rfl) (Nat.le_of_ble_eq_true rfl) rfl rfl dX11_readNumber_10 rfl (c_X11_here hRM hT ha ?_)
        rw [← ep]
        rw [if_neg cz]
        refine Kq_i (k' := 0) (sl' := 0) rfl rfl ?_
        refine V_istore_n 14 [(3, .int 0), (0, rf G 69), (1, .int (nI lo)), (2, .int hi)] (by decide) rfl rfl dX11_readNumber_13 rfl ?_
        refine V_aload_n 15 1 rfl _ rfl rfl dX11_readNumber_14 rfl ?_
        refine V_getI 18 69 11 4 (nI p) rfl flX11_129 rfl rfl rfl (by decide) dX11_readNumber_15 rfl ?_
        refine V_istore 20 [(4, .int (nI p)), (3, .int 0), (0, rf G 69), (1, .int (nI lo)), (2, .int hi)] (by decide) rfl dX11_readNumber_18 rfl ?_
        refine V_iconst 21 (0) rfl dX11_readNumber_20 rfl ?_
        refine V_istore 23 [(5, .int 0), (4, .int (nI p)), (3, .int 0), (0, rf G 69), (1, .int (nI lo)), (2, .int hi)] (by decide) rfl dX11_readNumber_21 rfl ?_
        refine V_iload_n 24 2 rfl rfl dX11_readNumber_23 rfl ?_
        refine V_callS (K' := 0) (S' := 0) 27 1 [.int 0] mkX11_isDigit lkX11_156 rfl (Nat.le_of_ble_eq_true rfl) (Nat.le_of_ble_eq_true rfl) (Nat.le_of_ble_eq_true rfl) (Nat.le_of_ble_eq_true rfl) rfl rfl dX11_readNumber_24 rfl (c_X11_isDigit (fun e3 e4 => absurd e3 (by decide)) (fun e3 => ?_))
        refine Kq_i (k' := 0) (sl' := 0) rfl rfl ?_
        refine V_if_ne 41 30 rfl dX11_readNumber_27 rfl (fun c27 => absurd c27 (by decide)) (fun c27 => ?_)
        refine V_aload_n 31 3 rfl _ rfl rfl dX11_readNumber_30 rfl ?_
        refine V_iconst 32 (1) rfl dX11_readNumber_31 rfl ?_
        refine V_aload_n 33 3 rfl _ rfl rfl dX11_readNumber_32 rfl ?_
        refine V_getI 36 69 11 4 (nI p) rfl flX11_129 rfl rfl rfl (by decide) dX11_readNumber_33 rfl ?_
        refine V_callV (K' := 0) (S' := 0) 39 69 11 2 [.int 1, .int (nI p)] mkX11_wrong lkX11_159 (by decide) rfl rfl (by decide) rfl (Nat.le_of_ble_eq_true rfl) (Nat.le_of_ble_eq_true rfl) (Nat.le_of_ble_eq_true rfl) (Nat.le_of_ble_eq_true rfl) rfl rfl dX11_readNumber_36 rfl (c_X11_wrong (kd := 1) (q := p) (fun e => absurd cb e) (fun _ => ?_))
        refine Kq_v (k' := 0) (sl' := 0) rfl rfl ?_
        refine V_iconst 40 (0) rfl dX11_readNumber_39 rfl ?_
        refine V_ret_i rfl rfl (Nat.le_of_ble_eq_true rfl) (fun h => absurd h (by decide)) (Nat.le_of_ble_eq_true rfl) (hb2) dX11_readNumber_40
  · refine V_aload_n 1 0 rfl _ rfl rfl dX11_readNumber_0 rfl ?_
    refine V_callV (K' := 0) (S' := 0) 4 69 11 0 [] mkX11_fine lkX11_152 (by decide) rfl rfl (by decide) rfl (Nat.le_of_ble_eq_true rfl) (Nat.le_of_ble_eq_true rfl) (Nat.le_of_ble_eq_true rfl) (Nat.le_of_ble_eq_true rfl) rfl rfl dX11_readNumber_1 rfl (c_X11_fine (fun e => absurd e cb) (fun _ => ?_))
    refine Kq_i (k' := 0) (sl' := 0) rfl rfl ?_
    refine V_if_ne 9 7 rfl dX11_readNumber_4 rfl (fun c4 => absurd c4 (by decide)) (fun c4 => ?_)
    refine V_iconst 8 (0) rfl dX11_readNumber_7 rfl ?_
    refine V_ret_i rfl rfl (Nat.le_of_ble_eq_true rfl) (fun h => absurd h (by decide)) (Nat.le_of_ble_eq_true rfl) (h1 cb) dX11_readNumber_8
set_option maxHeartbeats 4000000 in
theorem c_X11_sign {G : Gx} {d : Nat} {I : FI} {R : FR} {J : FJ} {Q : Po} (hRM : ∀ k, R 69 k = refM k) {t : Nat → Nat} {z : Nat} (hT : TxM I t z) {a : Nat} {b k : Int32} {c : Nat} (hc : c < 128) (hc0 : 0 < c) (ha : a ≤ z) (h1 : ¬ b = -1 → Q (.inl none) 103 (lx I a b k) R J) (hk : b = -1 → sk t z a < z → t (sk t z a) = c → Q (.inl none) 103 (lx I (sk t z a + 1) b k) R J) (hb : b = -1 → pSig t z c (sk t z a) = .inl (1, sk t z a) → Q (.inl none) 103 (lx I (sk t z a) (nI (sk t z a)) 1) R J) : Cc G mX11_sign (d + 1) 0 0 [rf G 69, .int (nI c)] 103 (lx I a b k) R J Q := by
  have h6 := hT.2.1
  show V _ _ _ _ _ _ _ _ [(0, rf G 69), (1, .int (nI c))] [] _ _ _ _ _
  by_cases cb : b = -1
  · obtain ⟨hs1, hs2, hs3⟩ := sk_z (t := t) ha
    obtain ⟨p, ep⟩ : ∃ p, p = sk t z a := ⟨_, rfl⟩
    rw [← ep] at hk hb hs1 hs2
    by_cases cs : p < z ∧ t p = c
    · refine V_aload_n 1 0 rfl _ rfl rfl dX11_sign_0 rfl ?_
      refine V_callV (K' := 0) (S' := 0) 4 69 11 0 [] mkX11_fine lkX11_152 (by decide) rfl rfl (by decide) rfl (Nat.le_of_ble_eq_true rfl) (Nat.le_of_ble_eq_true rfl) (Nat.le_of_ble_eq_true rfl) (Nat.le_of_ble_eq_true rfl) rfl rfl dX11_sign_1 rfl (c_X11_fine (fun _ => ?_) (fun e => absurd cb e))
      refine Kq_i (k' := 0) (sl' := 0) rfl rfl ?_
      refine V_if_eq 24 7 rfl dX11_sign_4 rfl (fun c4 => absurd c4 (by decide)) (fun c4 => ?_)
      refine V_aload_n 8 0 rfl _ rfl rfl dX11_sign_7 rfl ?_
      refine V_callV (K' := 0) (S' := 0) 11 69 11 0 [] mkX11_here lkX11_135 (by decide) rfl rfl (by decide) rfl (Nat.le_of_ble_eq_true rfl) (Nat.le_of_ble_eq_true rfl) (Nat.le_of_ble_eq_true rfl) (Nat.le_of_ble_eq_true rfl) rfl rfl dX11_sign_8 rfl (c_X11_here hRM hT ha ?_)
      rw [← ep]
      rw [if_pos cs.1]
      refine Kq_i (k' := 0) (sl' := 0) rfl rfl ?_
      refine V_iload_n 12 1 rfl rfl dX11_sign_11 rfl ?_
      refine V_icmp_eq 24 15 rfl dX11_sign_12 rfl (fun c12 => ?_) (fun c12 => absurd (by rw [cs.2]) c12)
      refine V_aload_n 25 0 rfl _ rfl rfl dX11_sign_24 rfl ?_
      refine V_callV (K' := 0) (S' := 0) 28 69 11 0 [] mkX11_fine lkX11_152 (by decide) rfl rfl (by decide) rfl (Nat.le_of_ble_eq_true rfl) (Nat.le_of_ble_eq_true rfl) (Nat.le_of_ble_eq_true rfl) (Nat.le_of_ble_eq_true rfl) rfl rfl dX11_sign_25 rfl (c_X11_fine (fun _ => ?_) (fun e => absurd cb e))
      refine Kq_i (k' := 0) (sl' := 0) rfl rfl ?_
      refine V_if_eq 41 31 rfl dX11_sign_28 rfl (fun c28 => absurd c28 (by decide)) (fun c28 => ?_)
      refine V_aload_n 32 0 rfl _ rfl rfl dX11_sign_31 rfl ?_
      refine V_dup 33 rfl dX11_sign_32 rfl ?_
      refine V_getI 36 69 11 4 (nI p) rfl flX11_129 rfl rfl rfl (by decide) dX11_sign_33 rfl ?_
      refine V_iconst 37 (1) rfl dX11_sign_36 rfl ?_
      refine V_iadd 38 dX11_sign_37 rfl ?_
      refine V_rw (nI_add p 1) ?_
      refine V_putI 41 69 11 4 flX11_129 rfl rfl rfl (by decide) rfl dX11_sign_38 rfl ?_
      rw [lx_a]
      refine V_ret_v rfl (Nat.le_of_ble_eq_true rfl) (fun h => absurd h (by decide)) (Nat.le_of_ble_eq_true rfl) (hk cb cs.1 cs.2) dX11_sign_41
    · have hb2 := hb cb (if_neg cs)
      have np : ¬ nI p = -1 := nI_ne (by omega)
      by_cases cz : p < z
      · refine V_aload_n 1 0 rfl _ rfl rfl dX11_sign_0 rfl ?_
        refine V_callV (K' := 0) (S' := 0) 4 69 11 0 [] mkX11_fine lkX11_152 (by decide) rfl rfl (by decide) rfl (Nat.le_of_ble_eq_true rfl) (Nat.le_of_ble_eq_true rfl) (Nat.le_of_ble_eq_true rfl) (Nat.le_of_ble_eq_true rfl) rfl rfl dX11_sign_1 rfl (c_X11_fine (fun _ => ?_) (fun e => absurd cb e))
        refine Kq_i (k' := 0) (sl' := 0) rfl rfl ?_
        refine V_if_eq 24 7 rfl dX11_sign_4 rfl (fun c4 => absurd c4 (by decide)) (fun c4 => ?_)
        refine V_aload_n 8 0 rfl _ rfl rfl dX11_sign_7 rfl ?_
        refine V_callV (K' := 0) (S' := 0) 11 69 11 0 [] mkX11_here lkX11_135 (by decide) rfl rfl (by decide) rfl (Nat.le_of_ble_eq_true rfl) (Nat.le_of_ble_eq_true rfl) (Nat.le_of_ble_eq_true rfl) (Nat.le_of_ble_eq_true rfl) rfl rfl dX11_sign_8 rfl (c_X11_here hRM hT ha ?_)
        rw [← ep]
        rw [if_pos cz]
        refine Kq_i (k' := 0) (sl' := 0) rfl rfl ?_
        refine V_iload_n 12 1 rfl rfl dX11_sign_11 rfl ?_
        refine V_icmp_eq 24 15 rfl dX11_sign_12 rfl (fun c12 => absurd ((nI_eq (by have := hT.2.2.2 p; omega) (by omega)).mp c12) (fun e => cs ⟨cz, e⟩)) (fun c12 => ?_)
        refine V_aload_n 16 0 rfl _ rfl rfl dX11_sign_15 rfl ?_
        refine V_iconst 17 (1) rfl dX11_sign_16 rfl ?_
        refine V_aload_n 18 0 rfl _ rfl rfl dX11_sign_17 rfl ?_
        refine V_getI 21 69 11 4 (nI p) rfl flX11_129 rfl rfl rfl (by decide) dX11_sign_18 rfl ?_
        refine V_callV (K' := 0) (S' := 0) 24 69 11 2 [.int 1, .int (nI p)] mkX11_wrong lkX11_159 (by decide) rfl rfl (by decide) rfl (Nat.le_of_ble_eq_true rfl) (Nat.le_of_ble_eq_true rfl) (Nat.le_of_ble_eq_true rfl) (Nat.le_of_ble_eq_true rfl) rfl rfl dX11_sign_21 rfl (c_X11_wrong (kd := 1) (q := p) (fun e => absurd cb e) (fun _ => ?_))
        refine Kq_v (k' := 0) (sl' := 0) rfl rfl ?_
        refine V_aload_n 25 0 rfl _ rfl rfl dX11_sign_24 rfl ?_
        refine V_callV (K' := 0) (S' := 0) 28 69 11 0 [] mkX11_fine lkX11_152 (by decide) rfl rfl (by decide) rfl (Nat.le_of_ble_eq_true rfl) (Nat.le_of_ble_eq_true rfl) (Nat.le_of_ble_eq_true rfl) (Nat.le_of_ble_eq_true rfl) rfl rfl dX11_sign_25 rfl (c_X11_fine (fun e => absurd e np) (fun _ => ?_))
        refine Kq_i (k' := 0) (sl' := 0) rfl rfl ?_
        refine V_if_eq 41 31 rfl dX11_sign_28 rfl (fun c28 => ?_) (fun c28 => absurd c28 (by decide))
        refine V_ret_v rfl (Nat.le_of_ble_eq_true rfl) (fun h => absurd h (by decide)) (Nat.le_of_ble_eq_true rfl) (hb2) dX11_sign_41
      · refine V_aload_n 1 0 rfl _ rfl rfl dX11_sign_0 rfl ?_
        refine V_callV (K' := 0) (S' := 0) 4 69 11 0 [] mkX11_fine lkX11_152 (by decide) rfl rfl (by decide) rfl (Nat.le_of_ble_eq_true rfl) (Nat.le_of_ble_eq_true rfl) (Nat.le_of_ble_eq_true rfl) (Nat.le_of_ble_eq_true rfl) rfl rfl dX11_sign_1 rfl (c_X11_fine (fun _ => ?_) (fun e => absurd cb e))
        refine Kq_i (k' := 0) (sl' := 0) rfl rfl ?_
        refine V_if_eq 24 7 rfl dX11_sign_4 rfl (fun c4 => absurd c4 (by decide)) (fun c4 => ?_)
        refine V_aload_n 8 0 rfl _ rfl rfl dX11_sign_7 rfl ?_
        refine V_callV (K' := 0) (S' := 0) 11 69 11 0 [] mkX11_here lkX11_135 (by decide) rfl rfl (by decide) rfl (Nat.le_of_ble_eq_true rfl) (Nat.le_of_ble_eq_true rfl) (Nat.le_of_ble_eq_true rfl) (Nat.le_of_ble_eq_true rfl) rfl rfl dX11_sign_8 rfl (c_X11_here hRM hT ha ?_)
        rw [← ep]
        rw [if_neg cz]
        refine Kq_i (k' := 0) (sl' := 0) rfl rfl ?_
        refine V_iload_n 12 1 rfl rfl dX11_sign_11 rfl ?_
        refine V_icmp_eq 24 15 rfl dX11_sign_12 rfl (fun c12 => absurd c12 (fun e => nI_ne0 hc0 (by omega) e.symm)) (fun c12 => ?_)
        refine V_aload_n 16 0 rfl _ rfl rfl dX11_sign_15 rfl ?_
        refine V_iconst 17 (1) rfl dX11_sign_16 rfl ?_
        refine V_aload_n 18 0 rfl _ rfl rfl dX11_sign_17 rfl ?_
        refine V_getI 21 69 11 4 (nI p) rfl flX11_129 rfl rfl rfl (by decide) dX11_sign_18 rfl ?_
        refine V_callV (K' := 0) (S' := 0) 24 69 11 2 [.int 1, .int (nI p)] mkX11_wrong lkX11_159 (by decide) rfl rfl (by decide) rfl (Nat.le_of_ble_eq_true rfl) (Nat.le_of_ble_eq_true rfl) (Nat.le_of_ble_eq_true rfl) (Nat.le_of_ble_eq_true rfl) rfl rfl dX11_sign_21 rfl (c_X11_wrong (kd := 1) (q := p) (fun e => absurd cb e) (fun _ => ?_))
        refine Kq_v (k' := 0) (sl' := 0) rfl rfl ?_
        refine V_aload_n 25 0 rfl _ rfl rfl dX11_sign_24 rfl ?_
        refine V_callV (K' := 0) (S' := 0) 28 69 11 0 [] mkX11_fine lkX11_152 (by decide) rfl rfl (by decide) rfl (Nat.le_of_ble_eq_true rfl) (Nat.le_of_ble_eq_true rfl) (Nat.le_of_ble_eq_true rfl) (Nat.le_of_ble_eq_true rfl) rfl rfl dX11_sign_25 rfl (c_X11_fine (fun e => absurd e np) (fun _ => ?_))
        refine Kq_i (k' := 0) (sl' := 0) rfl rfl ?_
        refine V_if_eq 41 31 rfl dX11_sign_28 rfl (fun c28 => ?_) (fun c28 => absurd c28 (by decide))
        refine V_ret_v rfl (Nat.le_of_ble_eq_true rfl) (fun h => absurd h (by decide)) (Nat.le_of_ble_eq_true rfl) (hb2) dX11_sign_41
  · refine V_aload_n 1 0 rfl _ rfl rfl dX11_sign_0 rfl ?_
    refine V_callV (K' := 0) (S' := 0) 4 69 11 0 [] mkX11_fine lkX11_152 (by decide) rfl rfl (by decide) rfl (Nat.le_of_ble_eq_true rfl) (Nat.le_of_ble_eq_true rfl) (Nat.le_of_ble_eq_true rfl) (Nat.le_of_ble_eq_true rfl) rfl rfl dX11_sign_1 rfl (c_X11_fine (fun e => absurd e cb) (fun _ => ?_))
    refine Kq_i (k' := 0) (sl' := 0) rfl rfl ?_
    refine V_if_eq 24 7 rfl dX11_sign_4 rfl (fun c4 => ?_) (fun c4 => absurd c4 (by decide))
    refine V_aload_n 25 0 rfl _ rfl rfl dX11_sign_24 rfl ?_
    refine V_callV (K' := 0) (S' := 0) 28 69 11 0 [] mkX11_fine lkX11_152 (by decide) rfl rfl (by decide) rfl (Nat.le_of_ble_eq_true rfl) (Nat.le_of_ble_eq_true rfl) (Nat.le_of_ble_eq_true rfl) (Nat.le_of_ble_eq_true rfl) rfl rfl dX11_sign_25 rfl (c_X11_fine (fun e => absurd e cb) (fun _ => ?_))
    refine Kq_i (k' := 0) (sl' := 0) rfl rfl ?_
    refine V_if_eq 41 31 rfl dX11_sign_28 rfl (fun c28 => ?_) (fun c28 => absurd c28 (by decide))
    refine V_ret_v rfl (Nat.le_of_ble_eq_true rfl) (fun h => absurd h (by decide)) (Nat.le_of_ble_eq_true rfl) (h1 cb) dX11_sign_41
