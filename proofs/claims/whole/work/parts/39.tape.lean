/-! ===== the text: tokens ===== -/
def dg (x : Nat) : Bool := decide (48 ≤ x ∧ x ≤ 57)
def le_ (x : Nat) : Bool := decide (97 ≤ x ∧ x ≤ 122)
def scF (P : Nat → Bool) (t : Nat → Nat) (z : Nat) : Nat → Nat → Nat
  | 0, a => a
  | k + 1, a => if a < z ∧ P (t a) = true then scF P t z k (a + 1) else a
/-- the end of a row of such bytes -/
def sc (P : Nat → Bool) (t : Nat → Nat) (z a : Nat) : Nat := scF P t z (z - a) a
theorem sc_go {P : Nat → Bool} {t : Nat → Nat} {z a : Nat} (h : a < z) (h2 : P (t a) = true) : sc P t z a = sc P t z (a + 1) := by
  unfold sc
  rw [show z - a = (z - (a + 1)) + 1 by omega]
  simp [scF, h, h2]
theorem sc_st {P : Nat → Bool} {t : Nat → Nat} {z a : Nat} (h : ¬ (a < z ∧ P (t a) = true)) : sc P t z a = a := by
  unfold sc
  cases h3 : z - a with
  | zero => rfl
  | succ k => simp only [scF]; rw [if_neg h]
theorem sc_le {P : Nat → Bool} {t : Nat → Nat} {z : Nat} : ∀ (f a : Nat), z - a ≤ f → a ≤ z → a ≤ sc P t z a ∧ sc P t z a ≤ z ∧ ∀ j, a ≤ j → j < sc P t z a → P (t j) = true := by
  intro f
  induction f with
  | zero => intro a h h2; rw [sc_st (by omega)]; exact ⟨Nat.le_refl _, h2, fun j h3 h4 => absurd h4 (by omega)⟩
  | succ f ih =>
    intro a h h2
    by_cases hc : a < z ∧ P (t a) = true
    · rw [sc_go hc.1 hc.2]
      obtain ⟨i1, i2, i3⟩ := ih (a + 1) (by omega) (by omega)
      refine ⟨by omega, i2, fun j h3 h4 => ?_⟩
      by_cases e : j = a
      · subst e; exact hc.2
      · exact i3 j (by omega) h4
    · rw [sc_st hc]; exact ⟨Nat.le_refl _, h2, fun j h3 h4 => absurd h4 (by omega)⟩
theorem sc_z {P : Nat → Bool} {t : Nat → Nat} {z a : Nat} (h : a ≤ z) : a ≤ sc P t z a ∧ sc P t z a ≤ z := ⟨(sc_le (z - a) a (Nat.le_refl _) h).1, (sc_le (z - a) a (Nat.le_refl _) h).2.1⟩
theorem sc_lt {P : Nat → Bool} {t : Nat → Nat} {z a : Nat} (h : a < z) (h2 : P (t a) = true) : a < sc P t z a := by
  rw [sc_go h h2]
  have := (sc_z (P := P) (t := t) (show a + 1 ≤ z by omega)).1
  omega
theorem sk_z {t : Nat → Nat} {z a : Nat} (h : a ≤ z) : a ≤ sk t z a ∧ sk t z a ≤ z ∧ ¬ (sk t z a < z ∧ t (sk t z a) = 32) := sk_le (z - a) a (Nat.le_refl _) h
theorem sk_sk {t : Nat → Nat} {z a : Nat} (h : a ≤ z) : sk t z (sk t z a) = sk t z a := sk_st (sk_z h).2.2
/-- a token's kind: 0 the end, 1 number, 2 word, 3 sign; its end; a number's value -/
def kdF (t : Nat → Nat) (z p : Nat) : Nat := if z ≤ p then 0 else if dg (t p) = true then 1 else if le_ (t p) = true then 2 else 3
def enF (t : Nat → Nat) (z p : Nat) : Nat := if z ≤ p then p else if dg (t p) = true then sc dg t z p else if le_ (t p) = true then sc le_ t z p else p + 1
def nvF (t : Nat → Nat) : Nat → Nat → Nat → Nat
  | 0, _, v => v
  | k + 1, a, v => nvF t k (a + 1) (if v < 100000 then v * 10 + t a - 48 else 100000)
def nuF (t : Nat → Nat) (z p : Nat) : Nat := if z ≤ p then 0 else if dg (t p) = true then nvF t (sc dg t z p - p) p 0 else 0
def nx (t : Nat → Nat) (z p : Nat) : Nat := sk t z (enF t z p)
theorem enF_z {t : Nat → Nat} {z p : Nat} (h : p ≤ z) : p ≤ enF t z p ∧ enF t z p ≤ z ∧ (p < z → p < enF t z p) := by
  unfold enF
  by_cases c : z ≤ p
  · rw [if_pos c]; omega
  · rw [if_neg c]
    by_cases c1 : dg (t p) = true
    · rw [if_pos c1]
      have a := sc_z (P := dg) (t := t) h
      have b := sc_lt (P := dg) (t := t) (show p < z by omega) c1
      omega
    · rw [if_neg c1]
      by_cases c2 : le_ (t p) = true
      · rw [if_pos c2]
        have a := sc_z (P := le_) (t := t) h
        have b := sc_lt (P := le_) (t := t) (show p < z by omega) c2
        omega
      · rw [if_neg c2]; omega
theorem nx_z {t : Nat → Nat} {z p : Nat} (h : p ≤ z) : p ≤ nx t z p ∧ nx t z p ≤ z ∧ (p < z → p < nx t z p) := by
  obtain ⟨a, b, c⟩ := enF_z (t := t) h
  obtain ⟨e, f, -⟩ := sk_z (t := t) b
  unfold nx
  refine ⟨by omega, f, fun q => ?_⟩
  have := c q
  omega
theorem nx_sk {t : Nat → Nat} {z p : Nat} (h : p ≤ z) : sk t z (nx t z p) = nx t z p := sk_sk (enF_z h).2.1
theorem nvF_le (t : Nat → Nat) : ∀ k a v, (∀ j, j < k → t (a + j) ≤ 57) → v ≤ 1000000 → nvF t k a v ≤ 1000000 := by
  intro k
  induction k with
  | zero => intro a v _ h; exact h
  | succ k ih =>
    intro a v hd h
    rw [nvF]
    have q := hd 0 (by omega)
    rw [Nat.add_zero] at q
    refine ih (a + 1) _ (fun j hj => by have := hd (j + 1) (by omega); rw [show a + 1 + j = a + (j + 1) by omega]; exact this) ?_
    split <;> omega
theorem nuF_le (t : Nat → Nat) (z p : Nat) : nuF t z p ≤ 1000000 := by
  unfold nuF
  by_cases c : z ≤ p
  · rw [if_pos c]; omega
  · rw [if_neg c]
    by_cases c2 : dg (t p) = true
    · rw [if_pos c2]
      refine nvF_le t _ _ _ (fun j hj => ?_) (by omega)
      have q := (sc_le (P := dg) (t := t) (z - p) p (Nat.le_refl _) (by omega)).2.2 (p + j) (by omega) (by omega)
      unfold dg at q
      exact (of_decide_eq_true q).2
    · rw [if_neg c2]; omega
/-- bytes as the class has them -/
def bI (x : Nat) : Int32 := (nI x).toInt8.toInt32
theorem bI_n : ∀ x, x < 128 → bI x = nI x := by decide +kernel
theorem bI_hi : ∀ x, x < 256 → 128 ≤ x → bI x < 0 := by decide +kernel
theorem bI_c {x c : Nat} (hx : x < 256) (hc : c < 128) : bI x = nI c ↔ x = c := by
  by_cases h : x < 128
  · rw [bI_n x h]; exact nI_eq (by omega) (by omega)
  · refine ⟨fun e => ?_, fun e => by omega⟩
    have := bI_hi x hx (by omega)
    rw [e] at this
    exact absurd this (nI_pos (by omega))
theorem bI_dg {x : Nat} (hx : x < 256) : dg x = true ↔ ((48 : Int32) ≤ bI x ∧ bI x ≤ 57) := by
  unfold dg
  rw [decide_eq_true_iff]
  by_cases h : x < 128
  · rw [bI_n x h, show (48 : Int32) = nI 48 from rfl, show (57 : Int32) = nI 57 from rfl, nI_leI (by omega) (by omega), nI_leI (by omega) (by omega)]
  · refine ⟨fun e => by omega, fun e => ?_⟩
    exact absurd (Int32.lt_of_le_of_lt e.1 (bI_hi x hx (by omega))) (by decide)
theorem bI_le {x : Nat} (hx : x < 256) : le_ x = true ↔ ((97 : Int32) ≤ bI x ∧ bI x ≤ 122) := by
  unfold le_
  rw [decide_eq_true_iff]
  by_cases h : x < 128
  · rw [bI_n x h, show (97 : Int32) = nI 97 from rfl, show (122 : Int32) = nI 122 from rfl, nI_leI (by omega) (by omega), nI_leI (by omega) (by omega)]
  · refine ⟨fun e => by omega, fun e => ?_⟩
    exact absurd (Int32.lt_of_le_of_lt e.1 (bI_hi x hx (by omega))) (by decide)
theorem dg_iff {x : Nat} : dg x = true ↔ 48 ≤ x ∧ x ≤ 57 := decide_eq_true_iff
theorem le_iff {x : Nat} : le_ x = true ↔ 97 ≤ x ∧ x ≤ 122 := decide_eq_true_iff
/-- the class holds the text -/
def TxC (I : FI) (t : Nat → Nat) (z : Nat) : Prop := I 1 2 = nI z ∧ z ≤ 600 ∧ (∀ j, j < 600 → I 2 j = bI (t j)) ∧ ∀ j, t j < 256
/-- the class's reader: start, stop, kind, number, the FAULT's code and place -/
def tr (I : FI) (s e k n : Nat) (fc fp : Int32) : FI := fun o => if o = 1 then (fun j => if j = 3 then nI s else if j = 4 then nI e else if j = 5 then nI k else if j = 6 then nI n else if j = 7 then fc else if j = 8 then fp else I 1 j) else I o
theorem tr_3 {I : FI} {s e k n x : Nat} {fc fp : Int32} : up2 (tr I s e k n fc fp) 1 3 (nI x) = tr I x e k n fc fp := by
  funext o j
  by_cases h : o = 1
  · subst h
    rcases j with _ | _ | _ | _ | _ | _ | _ | _ | _ | j <;> simp [up2, upd, tr]
  · simp [up2, tr, h]
theorem tr_4 {I : FI} {s e k n x : Nat} {fc fp : Int32} : up2 (tr I s e k n fc fp) 1 4 (nI x) = tr I s x k n fc fp := by
  funext o j
  by_cases h : o = 1
  · subst h
    rcases j with _ | _ | _ | _ | _ | _ | _ | _ | _ | j <;> simp [up2, upd, tr]
  · simp [up2, tr, h]
theorem tr_5 {I : FI} {s e k n x : Nat} {fc fp : Int32} : up2 (tr I s e k n fc fp) 1 5 (nI x) = tr I s e x n fc fp := by
  funext o j
  by_cases h : o = 1
  · subst h
    rcases j with _ | _ | _ | _ | _ | _ | _ | _ | _ | j <;> simp [up2, upd, tr]
  · simp [up2, tr, h]
theorem tr_6 {I : FI} {s e k n x : Nat} {fc fp : Int32} : up2 (tr I s e k n fc fp) 1 6 (nI x) = tr I s e k x fc fp := by
  funext o j
  by_cases h : o = 1
  · subst h
    rcases j with _ | _ | _ | _ | _ | _ | _ | _ | _ | j <;> simp [up2, upd, tr]
  · simp [up2, tr, h]
theorem tr_7 {I : FI} {s e k n : Nat} {fc fp x : Int32} : up2 (tr I s e k n fc fp) 1 7 x = tr I s e k n x fp := by
  funext o j
  by_cases h : o = 1
  · subst h
    rcases j with _ | _ | _ | _ | _ | _ | _ | _ | _ | j <;> simp [up2, upd, tr]
  · simp [up2, tr, h]
theorem tr_8 {I : FI} {s e k n : Nat} {fc fp x : Int32} : up2 (tr I s e k n fc fp) 1 8 x = tr I s e k n fc x := by
  funext o j
  by_cases h : o = 1
  · subst h
    rcases j with _ | _ | _ | _ | _ | _ | _ | _ | _ | j <;> simp [up2, upd, tr]
  · simp [up2, tr, h]
theorem tr_n {I : FI} {s e k n a : Nat} {fc fp : Int32} (h : a ≠ 1) : tr I s e k n fc fp a = I a := if_neg h
theorem tr_up {I : FI} {s e k n a j : Nat} {fc fp v : Int32} (h : a ≠ 1) : up2 (tr I s e k n fc fp) a j v = tr (up2 I a j v) s e k n fc fp := by
  funext o q
  by_cases h1 : o = 1
  · subst h1
    have h2 : ¬ (1 : Nat) = a := fun e => h e.symm
    simp [up2, tr, h2]
  · by_cases h2 : o = a
    · subst h2; simp [up2, tr, h1]
    · simp [up2, tr, h1, h2]
/-- at the token that begins at p -/
def tp (t : Nat → Nat) (z : Nat) (I : FI) (p : Nat) (fc fp : Int32) : FI := tr I p (enF t z p) (kdF t z p) (nuF t z p) fc fp
theorem TxC.tr {I : FI} {t : Nat → Nat} {z s e k n : Nat} {fc fp : Int32} (h : TxC I t z) : TxC (tr I s e k n fc fp) t z := ⟨h.1, h.2.1, fun j hj => by rw [tr_n (by decide)]; exact h.2.2.1 j hj, h.2.2.2⟩
theorem TxC.up {I : FI} {t : Nat → Nat} {z a j : Nat} {v : Int32} (h : TxC I t z) (h1 : a ≠ 1) (h2 : a ≠ 2) : TxC (up2 I a j v) t z := ⟨by rw [up2_n _ _ _ (Ne.symm h1)]; exact h.1, h.2.1, fun j hj => by rw [up2_n _ _ _ (Ne.symm h2)]; exact h.2.2.1 j hj, h.2.2.2⟩
theorem TxC.fr {I I' : FI} {t : Nat → Nat} {z : Nat} (h : TxC I t z) (h1 : I' 1 = I 1) (h2 : I' 2 = I 2) : TxC I' t z := ⟨by rw [h1]; exact h.1, h.2.1, fun j hj => by rw [h2]; exact h.2.2.1 j hj, h.2.2.2⟩
theorem tp_up {t : Nat → Nat} {z : Nat} {I : FI} {p a j : Nat} {fc fp v : Int32} (h : a ≠ 1) : up2 (tp t z I p fc fp) a j v = tp t z (up2 I a j v) p fc fp := tr_up h
theorem tp_n {t : Nat → Nat} {z : Nat} {I : FI} {p a : Nat} {fc fp : Int32} (h : a ≠ 1) : tp t z I p fc fp a = I a := tr_n h
theorem nv_s {v x : Nat} (h1 : 48 ≤ x) (h2 : x ≤ 57) : nI v * 10 + bI x - 48 = nI (v * 10 + x - 48) := by
  rw [bI_n x (by omega), show (10 : Int32) = nI 10 from rfl, pk_mul, nI_add, show (48 : Int32) = nI 48 from rfl, pk_sub (by omega)]
theorem nvF_go {t : Nat → Nat} {z a v : Nat} (h : a < z) (h1 : dg (t a) = true) : nvF t (sc dg t z a - a) a v = nvF t (sc dg t z (a + 1) - (a + 1)) (a + 1) (if v < 100000 then v * 10 + t a - 48 else 100000) := by
  have e := sc_go h h1
  have q := (sc_z (P := dg) (t := t) (show a + 1 ≤ z by omega)).1
  rw [e, show sc dg t z (a + 1) - a = (sc dg t z (a + 1) - (a + 1)) + 1 by omega, nvF]
theorem nvF_st {t : Nat → Nat} {z a v : Nat} (h : ¬ (a < z ∧ dg (t a) = true)) : nvF t (sc dg t z a - a) a v = v := by
  rw [sc_st h, Nat.sub_self, nvF]
theorem tp_0 {t : Nat → Nat} {z : Nat} {I : FI} {p : Nat} {fc fp : Int32} (h : z ≤ p) : tp t z I p fc fp = tr I p p 0 0 fc fp := by
  unfold tp enF kdF nuF; rw [if_pos h, if_pos h, if_pos h]
theorem tp_1 {t : Nat → Nat} {z : Nat} {I : FI} {p : Nat} {fc fp : Int32} (h : p < z) (h1 : dg (t p) = true) : tp t z I p fc fp = tr I p (sc dg t z p) 1 (nvF t (sc dg t z p - p) p 0) fc fp := by
  unfold tp enF kdF nuF; rw [if_neg (Nat.not_le.mpr h), if_neg (Nat.not_le.mpr h), if_neg (Nat.not_le.mpr h), if_pos h1, if_pos h1, if_pos h1]
theorem tp_2 {t : Nat → Nat} {z : Nat} {I : FI} {p : Nat} {fc fp : Int32} (h : p < z) (h1 : ¬ dg (t p) = true) (h2 : le_ (t p) = true) : tp t z I p fc fp = tr I p (sc le_ t z p) 2 0 fc fp := by
  unfold tp enF kdF nuF; rw [if_neg (Nat.not_le.mpr h), if_neg (Nat.not_le.mpr h), if_neg (Nat.not_le.mpr h), if_neg h1, if_neg h1, if_neg h1, if_pos h2, if_pos h2]
theorem tp_3 {t : Nat → Nat} {z : Nat} {I : FI} {p : Nat} {fc fp : Int32} (h : p < z) (h1 : ¬ dg (t p) = true) (h2 : ¬ le_ (t p) = true) : tp t z I p fc fp = tr I p (p + 1) 3 0 fc fp := by
  unfold tp enF kdF nuF; rw [if_neg (Nat.not_le.mpr h), if_neg (Nat.not_le.mpr h), if_neg (Nat.not_le.mpr h), if_neg h1, if_neg h1, if_neg h1, if_neg h2, if_neg h2]
set_option maxHeartbeats 8000000 in
theorem c_X8_next {G : Gx} {d : Nat} {I : FI} {R : FR} {J : FJ} {Q : Po} (hRK : RK R) {t : Nat → Nat} {z : Nat} (hT : TxC I t z) {s e k n : Nat} {fc fp : Int32} (he : e ≤ z) (hq : Q (.inl none) 103 (tp t z I (sk t z e) fc fp) R J) : Cc G mX8_next (d + 1 + 1) 0 0 [rf G 1] 103 (tr I s e k n fc fp) R J Q := by
  have h6 := hT.2.1
  have key : ∀ f a, z - a ≤ f → a ≤ z → Q (.inl none) 103 (tp t z I (sk t z a) fc fp) R J → V G mX8_next (d + 1 + 1) 0 0 0 0 8 [(0, rf G 1)] [] 103 (tr I a e k n fc fp) R J Q := by
    have tail : ∀ a, a ≤ z → Q (.inl none) 103 (tp t z I a fc fp) R J → V G mX8_next (d + 1 + 1) 0 0 0 0 46 [(0, rf G 1)] [] 103 (tr I a e k n fc fp) R J Q := by
      intro a ha hq
      have kD : ∀ f x v, z - x ≤ f → x ≤ z → v ≤ 1000000 → Q (.inl none) 103 (tr I a (sc dg t z x) 1 (nvF t (sc dg t z x - x) x v) fc fp) R J → V G mX8_next (d + 1 + 1) 0 0 0 0 79 [(0, rf G 1)] [] 103 (tr I a x 1 v fc fp) R J Q := by
        intro f
        induction f with
        | zero =>
          intro x v hf hx hv hq
          have c_l : ¬ x < z := by omega
          rw [nvF_st (fun h => c_l h.1), sc_st (fun h => c_l h.1)] at hq
          refine V_aload_n 80 0 rfl _ rfl rfl dX8_next_79 rfl ?_
          refine V_getI 83 1 8 4 (nI x) rfl flX8_34 rfl rfl rfl (by decide) dX8_next_80 rfl ?_
          refine V_aload_n 84 0 rfl _ rfl rfl dX8_next_83 rfl ?_
          refine V_getI 87 1 8 2 (nI z) hT.1 flX8_31 rfl rfl rfl (by decide) dX8_next_84 rfl ?_
          refine V_icmp_ge 174 90 rfl dX8_next_87 rfl (fun c87 => ?_) (fun c87 => absurd (nI_le (show z ≤ x by omega) (by omega)) c87)
          refine V_aload_n 175 0 rfl _ rfl rfl dX8_next_174 rfl ?_
          refine V_getI 178 1 8 5 (nI 1) rfl flX8_49 rfl rfl rfl (by decide) dX8_next_175 rfl ?_
          refine V_iconst 179 (1) rfl dX8_next_178 rfl ?_
          refine V_icmp_eq 239 182 rfl dX8_next_179 rfl (fun c179 => ?_) (fun c179 => absurd rfl c179)
          refine V_aload_n 240 0 rfl _ rfl rfl dX8_next_239 rfl ?_
          refine V_dup 241 rfl dX8_next_240 rfl ?_
          refine V_getI 244 1 8 4 (nI x) rfl flX8_34 rfl rfl rfl (by decide) dX8_next_241 rfl ?_
          refine V_aload_n 245 0 rfl _ rfl rfl dX8_next_244 rfl ?_
          refine V_getI 248 1 8 5 (nI 1) rfl flX8_49 rfl rfl rfl (by decide) dX8_next_245 rfl ?_
          refine V_iconst 249 (3) rfl dX8_next_248 rfl ?_
          refine V_icmp_ne 256 252 rfl dX8_next_249 rfl (fun c249 => ?_) (fun c249 => absurd c249 (by decide))
          refine V_iconst 257 (0) rfl dX8_next_256 rfl ?_
          refine V_iadd 258 dX8_next_257 rfl ?_
          refine V_rw (Int32.add_zero _) ?_
          refine V_putI 261 1 8 4 flX8_34 rfl rfl rfl (by decide) rfl dX8_next_258 rfl ?_
          rw [tr_4]
          refine V_ret_v rfl (Nat.le_of_ble_eq_true rfl) (fun h => absurd h (by decide)) (Nat.le_of_ble_eq_true rfl) (hq) dX8_next_261
        | succ f ih =>
          intro x v hf hx hv hq
          by_cases c_l : x < z
          · by_cases c_d : dg (t x) = true
            · rw [nvF_go c_l c_d, sc_go c_l c_d] at hq
              have e2 := dg_iff.mp c_d
              have e3 := (bI_dg (hT.2.2.2 x)).mp c_d
              by_cases c_v : v < 100000
              · rw [if_pos c_v] at hq
                refine V_aload_n 80 0 rfl _ rfl rfl dX8_next_79 rfl ?_
                refine V_getI 83 1 8 4 (nI x) rfl flX8_34 rfl rfl rfl (by decide) dX8_next_80 rfl ?_
                refine V_aload_n 84 0 rfl _ rfl rfl dX8_next_83 rfl ?_
                refine V_getI 87 1 8 2 (nI z) hT.1 flX8_31 rfl rfl rfl (by decide) dX8_next_84 rfl ?_
                refine V_icmp_ge 174 90 rfl dX8_next_87 rfl (fun c87 => absurd c87 (nI_ge c_l (by omega))) (fun c87 => ?_)
                refine V_aload_n 91 0 rfl _ rfl rfl dX8_next_90 rfl ?_
                refine V_getR 94 1 8 0 2 (hRK 1 0 (by decide) (by decide) (by decide)) flX8_9 rfl rfl rfl (by decide) dX8_next_91 rfl ?_
                refine V_aload_n 95 0 rfl _ rfl rfl dX8_next_94 rfl ?_
                refine V_getI 98 1 8 4 (nI x) rfl flX8_34 rfl rfl rfl (by decide) dX8_next_95 rfl ?_
                refine V_baldN 99 2 600 x (bI (t x)) (hT.tr.2.2.1 _ (by omega)) (by omega) (by decide) rfl (by decide) dX8_next_98 rfl ?_
                refine V_bipush 101 (48) rfl dX8_next_99 rfl ?_
                refine V_icmp_lt 174 104 rfl dX8_next_101 rfl (fun c101 => absurd c101 (Int32.not_lt.mpr e3.1)) (fun c101 => ?_)
                refine V_aload_n 105 0 rfl _ rfl rfl dX8_next_104 rfl ?_
                refine V_getR 108 1 8 0 2 (hRK 1 0 (by decide) (by decide) (by decide)) flX8_9 rfl rfl rfl (by decide) dX8_next_105 rfl ?_
                refine V_aload_n 109 0 rfl _ rfl rfl dX8_next_108 rfl ?_
                refine V_getI 112 1 8 4 (nI x) rfl flX8_34 rfl rfl rfl (by decide) dX8_next_109 rfl ?_
                refine V_baldN 113 2 600 x (bI (t x)) (hT.tr.2.2.1 _ (by omega)) (by omega) (by decide) rfl (by decide) dX8_next_112 rfl ?_
                refine V_bipush 115 (57) rfl dX8_next_113 rfl ?_
                refine V_icmp_gt 174 118 rfl dX8_next_115 rfl (fun c115 => absurd c115 (Int32.not_lt.mpr e3.2)) (fun c115 => ?_)
                refine V_aload_n 119 0 rfl _ rfl rfl dX8_next_118 rfl ?_
                refine V_iconst 120 (1) rfl dX8_next_119 rfl ?_
                refine V_putI 123 1 8 5 flX8_49 rfl rfl rfl (by decide) rfl dX8_next_120 rfl ?_
                rw [show (1 : Int32) = nI 1 from rfl, tr_5]
                refine V_aload_n 124 0 rfl _ rfl rfl dX8_next_123 rfl ?_
                refine V_aload_n 125 0 rfl _ rfl rfl dX8_next_124 rfl ?_
                refine V_getI 128 1 8 6 (nI v) rfl flX8_46 rfl rfl rfl (by decide) dX8_next_125 rfl ?_
                refine V_ldc 130 (100000) rfl ckX8_52 dX8_next_128 rfl ?_
                refine V_icmp_ge 156 133 rfl dX8_next_130 rfl (fun c130 => absurd c130 (nI_ge (b := 100000) (a := v) (by omega) (by decide))) (fun c130 => ?_)
                refine V_aload_n 134 0 rfl _ rfl rfl dX8_next_133 rfl ?_
                refine V_getI 137 1 8 6 (nI v) rfl flX8_46 rfl rfl rfl (by decide) dX8_next_134 rfl ?_
                refine V_bipush 139 (10) rfl dX8_next_137 rfl ?_
                refine V_imul 140 dX8_next_139 rfl ?_
                refine V_aload_n 141 0 rfl _ rfl rfl dX8_next_140 rfl ?_
                refine V_getR 144 1 8 0 2 (hRK 1 0 (by decide) (by decide) (by decide)) flX8_9 rfl rfl rfl (by decide) dX8_next_141 rfl ?_
                refine V_aload_n 145 0 rfl _ rfl rfl dX8_next_144 rfl ?_
                refine V_getI 148 1 8 4 (nI x) rfl flX8_34 rfl rfl rfl (by decide) dX8_next_145 rfl ?_
                refine V_baldN 149 2 600 x (bI (t x)) (hT.tr.2.2.1 _ (by omega)) (by omega) (by decide) rfl (by decide) dX8_next_148 rfl ?_
                refine V_iadd 150 dX8_next_149 rfl ?_
                refine V_bipush 152 (48) rfl dX8_next_150 rfl ?_
                refine V_isub 153 dX8_next_152 rfl ?_
                refine V_rw (nv_s e2.1 e2.2) ?_
                refine V_goto 158 rfl dX8_next_153 ?_
                refine V_putI 161 1 8 6 flX8_46 rfl rfl rfl (by decide) rfl dX8_next_158 rfl ?_
                rw [tr_6]
                refine V_aload_n 162 0 rfl _ rfl rfl dX8_next_161 rfl ?_
                refine V_dup 163 rfl dX8_next_162 rfl ?_
                refine V_getI 166 1 8 4 (nI x) rfl flX8_34 rfl rfl rfl (by decide) dX8_next_163 rfl ?_
                refine V_iconst 167 (1) rfl dX8_next_166 rfl ?_
                refine V_iadd 168 dX8_next_167 rfl ?_
                refine V_rw (nI_1 x) ?_
                refine V_putI 171 1 8 4 flX8_34 rfl rfl rfl (by decide) rfl dX8_next_168 rfl ?_
                rw [tr_4]
                refine V_goto 79 rfl dX8_next_171 ?_
                exact ih (x + 1) _ (by omega) (by omega) (by omega) hq
              · rw [if_neg c_v] at hq
                refine V_aload_n 80 0 rfl _ rfl rfl dX8_next_79 rfl ?_
                refine V_getI 83 1 8 4 (nI x) rfl flX8_34 rfl rfl rfl (by decide) dX8_next_80 rfl ?_
                refine V_aload_n 84 0 rfl _ rfl rfl dX8_next_83 rfl ?_
                refine V_getI 87 1 8 2 (nI z) hT.1 flX8_31 rfl rfl rfl (by decide) dX8_next_84 rfl ?_
                refine V_icmp_ge 174 90 rfl dX8_next_87 rfl (fun c87 => absurd c87 (nI_ge c_l (by omega))) (fun c87 => ?_)
                refine V_aload_n 91 0 rfl _ rfl rfl dX8_next_90 rfl ?_
                refine V_getR 94 1 8 0 2 (hRK 1 0 (by decide) (by decide) (by decide)) flX8_9 rfl rfl rfl (by decide) dX8_next_91 rfl ?_
                refine V_aload_n 95 0 rfl _ rfl rfl dX8_next_94 rfl ?_
                refine V_getI 98 1 8 4 (nI x) rfl flX8_34 rfl rfl rfl (by decide) dX8_next_95 rfl ?_
                refine V_baldN 99 2 600 x (bI (t x)) (hT.tr.2.2.1 _ (by omega)) (by omega) (by decide) rfl (by decide) dX8_next_98 rfl ?_
                refine V_bipush 101 (48) rfl dX8_next_99 rfl ?_
                refine V_icmp_lt 174 104 rfl dX8_next_101 rfl (fun c101 => absurd c101 (Int32.not_lt.mpr e3.1)) (fun c101 => ?_)
                refine V_aload_n 105 0 rfl _ rfl rfl dX8_next_104 rfl ?_
                refine V_getR 108 1 8 0 2 (hRK 1 0 (by decide) (by decide) (by decide)) flX8_9 rfl rfl rfl (by decide) dX8_next_105 rfl ?_
                refine V_aload_n 109 0 rfl _ rfl rfl dX8_next_108 rfl ?_
                refine V_getI 112 1 8 4 (nI x) rfl flX8_34 rfl rfl rfl (by decide) dX8_next_109 rfl ?_
                refine V_baldN 113 2 600 x (bI (t x)) (hT.tr.2.2.1 _ (by omega)) (by omega) (by decide) rfl (by decide) dX8_next_112 rfl ?_
                refine V_bipush 115 (57) rfl dX8_next_113 rfl ?_
                refine V_icmp_gt 174 118 rfl dX8_next_115 rfl (fun c115 => absurd c115 (Int32.not_lt.mpr e3.2)) (fun c115 => ?_)
                refine V_aload_n 119 0 rfl _ rfl rfl dX8_next_118 rfl ?_
                refine V_iconst 120 (1) rfl dX8_next_119 rfl ?_
                refine V_putI 123 1 8 5 flX8_49 rfl rfl rfl (by decide) rfl dX8_next_120 rfl ?_
                rw [show (1 : Int32) = nI 1 from rfl, tr_5]
                refine V_aload_n 124 0 rfl _ rfl rfl dX8_next_123 rfl ?_
                refine V_aload_n 125 0 rfl _ rfl rfl dX8_next_124 rfl ?_
                refine V_getI 128 1 8 6 (nI v) rfl flX8_46 rfl rfl rfl (by decide) dX8_next_125 rfl ?_
                refine V_ldc 130 (100000) rfl ckX8_52 dX8_next_128 rfl ?_
                refine V_icmp_ge 156 133 rfl dX8_next_130 rfl (fun c130 => ?_) (fun c130 => absurd (nI_le (a := 100000) (show 100000 ≤ v by omega) (by omega)) c130)
                refine V_ldc 158 (100000) rfl ckX8_52 dX8_next_156 rfl ?_
                refine V_putI 161 1 8 6 flX8_46 rfl rfl rfl (by decide) rfl dX8_next_158 rfl ?_
                rw [show (100000 : Int32) = nI 100000 from rfl, tr_6]
                refine V_aload_n 162 0 rfl _ rfl rfl dX8_next_161 rfl ?_
                refine V_dup 163 rfl dX8_next_162 rfl ?_
                refine V_getI 166 1 8 4 (nI x) rfl flX8_34 rfl rfl rfl (by decide) dX8_next_163 rfl ?_
                refine V_iconst 167 (1) rfl dX8_next_166 rfl ?_
                refine V_iadd 168 dX8_next_167 rfl ?_
                refine V_rw (nI_1 x) ?_
                refine V_putI 171 1 8 4 flX8_34 rfl rfl rfl (by decide) rfl dX8_next_168 rfl ?_
                rw [tr_4]
                refine V_goto 79 rfl dX8_next_171 ?_
                exact ih (x + 1) _ (by omega) (by omega) (by omega) hq
            · rw [nvF_st (fun h => c_d h.2), sc_st (fun h => c_d h.2)] at hq
              refine V_aload_n 80 0 rfl _ rfl rfl dX8_next_79 rfl ?_
              refine V_getI 83 1 8 4 (nI x) rfl flX8_34 rfl rfl rfl (by decide) dX8_next_80 rfl ?_
              refine V_aload_n 84 0 rfl _ rfl rfl dX8_next_83 rfl ?_
              refine V_getI 87 1 8 2 (nI z) hT.1 flX8_31 rfl rfl rfl (by decide) dX8_next_84 rfl ?_
              refine V_icmp_ge 174 90 rfl dX8_next_87 rfl (fun c87 => absurd c87 (nI_ge c_l (by omega))) (fun c87 => ?_)
              refine V_aload_n 91 0 rfl _ rfl rfl dX8_next_90 rfl ?_
              refine V_getR 94 1 8 0 2 (hRK 1 0 (by decide) (by decide) (by decide)) flX8_9 rfl rfl rfl (by decide) dX8_next_91 rfl ?_
              refine V_aload_n 95 0 rfl _ rfl rfl dX8_next_94 rfl ?_
              refine V_getI 98 1 8 4 (nI x) rfl flX8_34 rfl rfl rfl (by decide) dX8_next_95 rfl ?_
              refine V_baldN 99 2 600 x (bI (t x)) (hT.tr.2.2.1 _ (by omega)) (by omega) (by decide) rfl (by decide) dX8_next_98 rfl ?_
              refine V_bipush 101 (48) rfl dX8_next_99 rfl ?_
              refine V_icmp_lt 174 104 rfl dX8_next_101 rfl (fun c101 => ?_) (fun c101 => ?_)
              · refine V_aload_n 175 0 rfl _ rfl rfl dX8_next_174 rfl ?_
                refine V_getI 178 1 8 5 (nI 1) rfl flX8_49 rfl rfl rfl (by decide) dX8_next_175 rfl ?_
                refine V_iconst 179 (1) rfl dX8_next_178 rfl ?_
                refine V_icmp_eq 239 182 rfl dX8_next_179 rfl (fun c179 => ?_) (fun c179 => absurd rfl c179)
                refine V_aload_n 240 0 rfl _ rfl rfl dX8_next_239 rfl ?_
                refine V_dup 241 rfl dX8_next_240 rfl ?_
                refine V_getI 244 1 8 4 (nI x) rfl flX8_34 rfl rfl rfl (by decide) dX8_next_241 rfl ?_
                refine V_aload_n 245 0 rfl _ rfl rfl dX8_next_244 rfl ?_
                refine V_getI 248 1 8 5 (nI 1) rfl flX8_49 rfl rfl rfl (by decide) dX8_next_245 rfl ?_
                refine V_iconst 249 (3) rfl dX8_next_248 rfl ?_
                refine V_icmp_ne 256 252 rfl dX8_next_249 rfl (fun c249 => ?_) (fun c249 => absurd c249 (by decide))
                refine V_iconst 257 (0) rfl dX8_next_256 rfl ?_
                refine V_iadd 258 dX8_next_257 rfl ?_
                refine V_rw (Int32.add_zero _) ?_
                refine V_putI 261 1 8 4 flX8_34 rfl rfl rfl (by decide) rfl dX8_next_258 rfl ?_
                rw [tr_4]
                refine V_ret_v rfl (Nat.le_of_ble_eq_true rfl) (fun h => absurd h (by decide)) (Nat.le_of_ble_eq_true rfl) (hq) dX8_next_261
              · refine V_aload_n 105 0 rfl _ rfl rfl dX8_next_104 rfl ?_
                refine V_getR 108 1 8 0 2 (hRK 1 0 (by decide) (by decide) (by decide)) flX8_9 rfl rfl rfl (by decide) dX8_next_105 rfl ?_
                refine V_aload_n 109 0 rfl _ rfl rfl dX8_next_108 rfl ?_
                refine V_getI 112 1 8 4 (nI x) rfl flX8_34 rfl rfl rfl (by decide) dX8_next_109 rfl ?_
                refine V_baldN 113 2 600 x (bI (t x)) (hT.tr.2.2.1 _ (by omega)) (by omega) (by decide) rfl (by decide) dX8_next_112 rfl ?_
                refine V_bipush 115 (57) rfl dX8_next_113 rfl ?_
                refine V_icmp_gt 174 118 rfl dX8_next_115 rfl (fun c115 => ?_) (fun c115 => ?_)
                · refine V_aload_n 175 0 rfl _ rfl rfl dX8_next_174 rfl ?_
                  refine V_getI 178 1 8 5 (nI 1) rfl flX8_49 rfl rfl rfl (by decide) dX8_next_175 rfl ?_
                  refine V_iconst 179 (1) rfl dX8_next_178 rfl ?_
                  refine V_icmp_eq 239 182 rfl dX8_next_179 rfl (fun c179 => ?_) (fun c179 => absurd rfl c179)
                  refine V_aload_n 240 0 rfl _ rfl rfl dX8_next_239 rfl ?_
                  refine V_dup 241 rfl dX8_next_240 rfl ?_
                  refine V_getI 244 1 8 4 (nI x) rfl flX8_34 rfl rfl rfl (by decide) dX8_next_241 rfl ?_
                  refine V_aload_n 245 0 rfl _ rfl rfl dX8_next_244 rfl ?_
                  refine V_getI 248 1 8 5 (nI 1) rfl flX8_49 rfl rfl rfl (by decide) dX8_next_245 rfl ?_
                  refine V_iconst 249 (3) rfl dX8_next_248 rfl ?_
                  refine V_icmp_ne 256 252 rfl dX8_next_249 rfl (fun c249 => ?_) (fun c249 => absurd c249 (by decide))
                  refine V_iconst 257 (0) rfl dX8_next_256 rfl ?_
                  refine V_iadd 258 dX8_next_257 rfl ?_
                  refine V_rw (Int32.add_zero _) ?_
                  refine V_putI 261 1 8 4 flX8_34 rfl rfl rfl (by decide) rfl dX8_next_258 rfl ?_
                  rw [tr_4]
                  refine V_ret_v rfl (Nat.le_of_ble_eq_true rfl) (fun h => absurd h (by decide)) (Nat.le_of_ble_eq_true rfl) (hq) dX8_next_261
                · exact absurd ((bI_dg (hT.2.2.2 x)).mpr ⟨Int32.not_lt.mp c101, Int32.not_lt.mp c115⟩) c_d
          · rw [nvF_st (fun h => c_l h.1), sc_st (fun h => c_l h.1)] at hq
            refine V_aload_n 80 0 rfl _ rfl rfl dX8_next_79 rfl ?_
            refine V_getI 83 1 8 4 (nI x) rfl flX8_34 rfl rfl rfl (by decide) dX8_next_80 rfl ?_
            refine V_aload_n 84 0 rfl _ rfl rfl dX8_next_83 rfl ?_
            refine V_getI 87 1 8 2 (nI z) hT.1 flX8_31 rfl rfl rfl (by decide) dX8_next_84 rfl ?_
            refine V_icmp_ge 174 90 rfl dX8_next_87 rfl (fun c87 => ?_) (fun c87 => absurd (nI_le (show z ≤ x by omega) (by omega)) c87)
            refine V_aload_n 175 0 rfl _ rfl rfl dX8_next_174 rfl ?_
            refine V_getI 178 1 8 5 (nI 1) rfl flX8_49 rfl rfl rfl (by decide) dX8_next_175 rfl ?_
            refine V_iconst 179 (1) rfl dX8_next_178 rfl ?_
            refine V_icmp_eq 239 182 rfl dX8_next_179 rfl (fun c179 => ?_) (fun c179 => absurd rfl c179)
            refine V_aload_n 240 0 rfl _ rfl rfl dX8_next_239 rfl ?_
            refine V_dup 241 rfl dX8_next_240 rfl ?_
            refine V_getI 244 1 8 4 (nI x) rfl flX8_34 rfl rfl rfl (by decide) dX8_next_241 rfl ?_
            refine V_aload_n 245 0 rfl _ rfl rfl dX8_next_244 rfl ?_
            refine V_getI 248 1 8 5 (nI 1) rfl flX8_49 rfl rfl rfl (by decide) dX8_next_245 rfl ?_
            refine V_iconst 249 (3) rfl dX8_next_248 rfl ?_
            refine V_icmp_ne 256 252 rfl dX8_next_249 rfl (fun c249 => ?_) (fun c249 => absurd c249 (by decide))
            refine V_iconst 257 (0) rfl dX8_next_256 rfl ?_
            refine V_iadd 258 dX8_next_257 rfl ?_
            refine V_rw (Int32.add_zero _) ?_
            refine V_putI 261 1 8 4 flX8_34 rfl rfl rfl (by decide) rfl dX8_next_258 rfl ?_
            rw [tr_4]
            refine V_ret_v rfl (Nat.le_of_ble_eq_true rfl) (fun h => absurd h (by decide)) (Nat.le_of_ble_eq_true rfl) (hq) dX8_next_261
      have kL : ∀ f x, z - x ≤ f → x ≤ z → Q (.inl none) 103 (tr I a (sc le_ t z x) 2 0 fc fp) R J → V G mX8_next (d + 1 + 1) 0 0 0 0 174 [(0, rf G 1)] [] 103 (tr I a x 2 0 fc fp) R J Q := by
        intro f
        induction f with
        | zero =>
          intro x hf hx hq
          have c_l : ¬ x < z := by omega
          rw [sc_st (fun h => c_l h.1)] at hq
          refine V_aload_n 175 0 rfl _ rfl rfl dX8_next_174 rfl ?_
          refine V_getI 178 1 8 5 (nI 2) rfl flX8_49 rfl rfl rfl (by decide) dX8_next_175 rfl ?_
          refine V_iconst 179 (1) rfl dX8_next_178 rfl ?_
          refine V_icmp_eq 239 182 rfl dX8_next_179 rfl (fun c179 => absurd c179 (by decide)) (fun c179 => ?_)
          refine V_aload_n 183 0 rfl _ rfl rfl dX8_next_182 rfl ?_
          refine V_getI 186 1 8 4 (nI x) rfl flX8_34 rfl rfl rfl (by decide) dX8_next_183 rfl ?_
          refine V_aload_n 187 0 rfl _ rfl rfl dX8_next_186 rfl ?_
          refine V_getI 190 1 8 2 (nI z) hT.1 flX8_31 rfl rfl rfl (by decide) dX8_next_187 rfl ?_
          refine V_icmp_ge 239 193 rfl dX8_next_190 rfl (fun c190 => ?_) (fun c190 => absurd (nI_le (show z ≤ x by omega) (by omega)) c190)
          refine V_aload_n 240 0 rfl _ rfl rfl dX8_next_239 rfl ?_
          refine V_dup 241 rfl dX8_next_240 rfl ?_
          refine V_getI 244 1 8 4 (nI x) rfl flX8_34 rfl rfl rfl (by decide) dX8_next_241 rfl ?_
          refine V_aload_n 245 0 rfl _ rfl rfl dX8_next_244 rfl ?_
          refine V_getI 248 1 8 5 (nI 2) rfl flX8_49 rfl rfl rfl (by decide) dX8_next_245 rfl ?_
          refine V_iconst 249 (3) rfl dX8_next_248 rfl ?_
          refine V_icmp_ne 256 252 rfl dX8_next_249 rfl (fun c249 => ?_) (fun c249 => absurd c249 (by decide))
          refine V_iconst 257 (0) rfl dX8_next_256 rfl ?_
          refine V_iadd 258 dX8_next_257 rfl ?_
          refine V_rw (Int32.add_zero _) ?_
          refine V_putI 261 1 8 4 flX8_34 rfl rfl rfl (by decide) rfl dX8_next_258 rfl ?_
          rw [tr_4]
          refine V_ret_v rfl (Nat.le_of_ble_eq_true rfl) (fun h => absurd h (by decide)) (Nat.le_of_ble_eq_true rfl) (hq) dX8_next_261
        | succ f ih =>
          intro x hf hx hq
          by_cases c_l : x < z
          · by_cases c_d : le_ (t x) = true
            · rw [sc_go c_l c_d] at hq
              have e3 := (bI_le (hT.2.2.2 x)).mp c_d
              refine V_aload_n 175 0 rfl _ rfl rfl dX8_next_174 rfl ?_
              refine V_getI 178 1 8 5 (nI 2) rfl flX8_49 rfl rfl rfl (by decide) dX8_next_175 rfl ?_
              refine V_iconst 179 (1) rfl dX8_next_178 rfl ?_
              refine V_icmp_eq 239 182 rfl dX8_next_179 rfl (fun c179 => absurd c179 (by decide)) (fun c179 => ?_)
              refine V_aload_n 183 0 rfl _ rfl rfl dX8_next_182 rfl ?_
              refine V_getI 186 1 8 4 (nI x) rfl flX8_34 rfl rfl rfl (by decide) dX8_next_183 rfl ?_
              refine V_aload_n 187 0 rfl _ rfl rfl dX8_next_186 rfl ?_
              refine V_getI 190 1 8 2 (nI z) hT.1 flX8_31 rfl rfl rfl (by decide) dX8_next_187 rfl ?_
              refine V_icmp_ge 239 193 rfl dX8_next_190 rfl (fun c190 => absurd c190 (nI_ge c_l (by omega))) (fun c190 => ?_)
              refine V_aload_n 194 0 rfl _ rfl rfl dX8_next_193 rfl ?_
              refine V_getR 197 1 8 0 2 (hRK 1 0 (by decide) (by decide) (by decide)) flX8_9 rfl rfl rfl (by decide) dX8_next_194 rfl ?_
              refine V_aload_n 198 0 rfl _ rfl rfl dX8_next_197 rfl ?_
              refine V_getI 201 1 8 4 (nI x) rfl flX8_34 rfl rfl rfl (by decide) dX8_next_198 rfl ?_
              refine V_baldN 202 2 600 x (bI (t x)) (hT.tr.2.2.1 _ (by omega)) (by omega) (by decide) rfl (by decide) dX8_next_201 rfl ?_
              refine V_bipush 204 (97) rfl dX8_next_202 rfl ?_
              refine V_icmp_lt 239 207 rfl dX8_next_204 rfl (fun c204 => absurd c204 (Int32.not_lt.mpr e3.1)) (fun c204 => ?_)
              refine V_aload_n 208 0 rfl _ rfl rfl dX8_next_207 rfl ?_
              refine V_getR 211 1 8 0 2 (hRK 1 0 (by decide) (by decide) (by decide)) flX8_9 rfl rfl rfl (by decide) dX8_next_208 rfl ?_
              refine V_aload_n 212 0 rfl _ rfl rfl dX8_next_211 rfl ?_
              refine V_getI 215 1 8 4 (nI x) rfl flX8_34 rfl rfl rfl (by decide) dX8_next_212 rfl ?_
              refine V_baldN 216 2 600 x (bI (t x)) (hT.tr.2.2.1 _ (by omega)) (by omega) (by decide) rfl (by decide) dX8_next_215 rfl ?_
              refine V_bipush 218 (122) rfl dX8_next_216 rfl ?_
              refine V_icmp_gt 239 221 rfl dX8_next_218 rfl (fun c218 => absurd c218 (Int32.not_lt.mpr e3.2)) (fun c218 => ?_)
              refine V_aload_n 222 0 rfl _ rfl rfl dX8_next_221 rfl ?_
              refine V_iconst 223 (2) rfl dX8_next_222 rfl ?_
              refine V_putI 226 1 8 5 flX8_49 rfl rfl rfl (by decide) rfl dX8_next_223 rfl ?_
              rw [show (2 : Int32) = nI 2 from rfl, tr_5]
              refine V_aload_n 227 0 rfl _ rfl rfl dX8_next_226 rfl ?_
              refine V_dup 228 rfl dX8_next_227 rfl ?_
              refine V_getI 231 1 8 4 (nI x) rfl flX8_34 rfl rfl rfl (by decide) dX8_next_228 rfl ?_
              refine V_iconst 232 (1) rfl dX8_next_231 rfl ?_
              refine V_iadd 233 dX8_next_232 rfl ?_
              refine V_rw (nI_1 x) ?_
              refine V_putI 236 1 8 4 flX8_34 rfl rfl rfl (by decide) rfl dX8_next_233 rfl ?_
              rw [tr_4]
              refine V_goto 174 rfl dX8_next_236 ?_
              exact ih (x + 1) (by omega) (by omega) hq
            · rw [sc_st (fun h => c_d h.2)] at hq
              refine V_aload_n 175 0 rfl _ rfl rfl dX8_next_174 rfl ?_
              refine V_getI 178 1 8 5 (nI 2) rfl flX8_49 rfl rfl rfl (by decide) dX8_next_175 rfl ?_
              refine V_iconst 179 (1) rfl dX8_next_178 rfl ?_
              refine V_icmp_eq 239 182 rfl dX8_next_179 rfl (fun c179 => absurd c179 (by decide)) (fun c179 => ?_)
              refine V_aload_n 183 0 rfl _ rfl rfl dX8_next_182 rfl ?_
              refine V_getI 186 1 8 4 (nI x) rfl flX8_34 rfl rfl rfl (by decide) dX8_next_183 rfl ?_
              refine V_aload_n 187 0 rfl _ rfl rfl dX8_next_186 rfl ?_
              refine V_getI 190 1 8 2 (nI z) hT.1 flX8_31 rfl rfl rfl (by decide) dX8_next_187 rfl ?_
              refine V_icmp_ge 239 193 rfl dX8_next_190 rfl (fun c190 => absurd c190 (nI_ge c_l (by omega))) (fun c190 => ?_)
              refine V_aload_n 194 0 rfl _ rfl rfl dX8_next_193 rfl ?_
              refine V_getR 197 1 8 0 2 (hRK 1 0 (by decide) (by decide) (by decide)) flX8_9 rfl rfl rfl (by decide) dX8_next_194 rfl ?_
              refine V_aload_n 198 0 rfl _ rfl rfl dX8_next_197 rfl ?_
              refine V_getI 201 1 8 4 (nI x) rfl flX8_34 rfl rfl rfl (by decide) dX8_next_198 rfl ?_
              refine V_baldN 202 2 600 x (bI (t x)) (hT.tr.2.2.1 _ (by omega)) (by omega) (by decide) rfl (by decide) dX8_next_201 rfl ?_
              refine V_bipush 204 (97) rfl dX8_next_202 rfl ?_
              refine V_icmp_lt 239 207 rfl dX8_next_204 rfl (fun c204 => ?_) (fun c204 => ?_)
              · refine V_aload_n 240 0 rfl _ rfl rfl dX8_next_239 rfl ?_
                refine V_dup 241 rfl dX8_next_240 rfl ?_
                refine V_getI 244 1 8 4 (nI x) rfl flX8_34 rfl rfl rfl (by decide) dX8_next_241 rfl ?_
                refine V_aload_n 245 0 rfl _ rfl rfl dX8_next_244 rfl ?_
                refine V_getI 248 1 8 5 (nI 2) rfl flX8_49 rfl rfl rfl (by decide) dX8_next_245 rfl ?_
                refine V_iconst 249 (3) rfl dX8_next_248 rfl ?_
                refine V_icmp_ne 256 252 rfl dX8_next_249 rfl (fun c249 => ?_) (fun c249 => absurd c249 (by decide))
                refine V_iconst 257 (0) rfl dX8_next_256 rfl ?_
                refine V_iadd 258 dX8_next_257 rfl ?_
                refine V_rw (Int32.add_zero _) ?_
                refine V_putI 261 1 8 4 flX8_34 rfl rfl rfl (by decide) rfl dX8_next_258 rfl ?_
                rw [tr_4]
                refine V_ret_v rfl (Nat.le_of_ble_eq_true rfl) (fun h => absurd h (by decide)) (Nat.le_of_ble_eq_true rfl) (hq) dX8_next_261
              · refine V_aload_n 208 0 rfl _ rfl rfl dX8_next_207 rfl ?_
                refine V_getR 211 1 8 0 2 (hRK 1 0 (by decide) (by decide) (by decide)) flX8_9 rfl rfl rfl (by decide) dX8_next_208 rfl ?_
                refine V_aload_n 212 0 rfl _ rfl rfl dX8_next_211 rfl ?_
                refine V_getI 215 1 8 4 (nI x) rfl flX8_34 rfl rfl rfl (by decide) dX8_next_212 rfl ?_
                refine V_baldN 216 2 600 x (bI (t x)) (hT.tr.2.2.1 _ (by omega)) (by omega) (by decide) rfl (by decide) dX8_next_215 rfl ?_
                refine V_bipush 218 (122) rfl dX8_next_216 rfl ?_
                refine V_icmp_gt 239 221 rfl dX8_next_218 rfl (fun c218 => ?_) (fun c218 => ?_)
                · refine V_aload_n 240 0 rfl _ rfl rfl dX8_next_239 rfl ?_
                  refine V_dup 241 rfl dX8_next_240 rfl ?_
                  refine V_getI 244 1 8 4 (nI x) rfl flX8_34 rfl rfl rfl (by decide) dX8_next_241 rfl ?_
                  refine V_aload_n 245 0 rfl _ rfl rfl dX8_next_244 rfl ?_
                  refine V_getI 248 1 8 5 (nI 2) rfl flX8_49 rfl rfl rfl (by decide) dX8_next_245 rfl ?_
                  refine V_iconst 249 (3) rfl dX8_next_248 rfl ?_
                  refine V_icmp_ne 256 252 rfl dX8_next_249 rfl (fun c249 => ?_) (fun c249 => absurd c249 (by decide))
                  refine V_iconst 257 (0) rfl dX8_next_256 rfl ?_
                  refine V_iadd 258 dX8_next_257 rfl ?_
                  refine V_rw (Int32.add_zero _) ?_
                  refine V_putI 261 1 8 4 flX8_34 rfl rfl rfl (by decide) rfl dX8_next_258 rfl ?_
                  rw [tr_4]
                  refine V_ret_v rfl (Nat.le_of_ble_eq_true rfl) (fun h => absurd h (by decide)) (Nat.le_of_ble_eq_true rfl) (hq) dX8_next_261
                · exact absurd ((bI_le (hT.2.2.2 x)).mpr ⟨Int32.not_lt.mp c204, Int32.not_lt.mp c218⟩) c_d
          · rw [sc_st (fun h => c_l h.1)] at hq
            refine V_aload_n 175 0 rfl _ rfl rfl dX8_next_174 rfl ?_
            refine V_getI 178 1 8 5 (nI 2) rfl flX8_49 rfl rfl rfl (by decide) dX8_next_175 rfl ?_
            refine V_iconst 179 (1) rfl dX8_next_178 rfl ?_
            refine V_icmp_eq 239 182 rfl dX8_next_179 rfl (fun c179 => absurd c179 (by decide)) (fun c179 => ?_)
            refine V_aload_n 183 0 rfl _ rfl rfl dX8_next_182 rfl ?_
            refine V_getI 186 1 8 4 (nI x) rfl flX8_34 rfl rfl rfl (by decide) dX8_next_183 rfl ?_
            refine V_aload_n 187 0 rfl _ rfl rfl dX8_next_186 rfl ?_
            refine V_getI 190 1 8 2 (nI z) hT.1 flX8_31 rfl rfl rfl (by decide) dX8_next_187 rfl ?_
            refine V_icmp_ge 239 193 rfl dX8_next_190 rfl (fun c190 => ?_) (fun c190 => absurd (nI_le (show z ≤ x by omega) (by omega)) c190)
            refine V_aload_n 240 0 rfl _ rfl rfl dX8_next_239 rfl ?_
            refine V_dup 241 rfl dX8_next_240 rfl ?_
            refine V_getI 244 1 8 4 (nI x) rfl flX8_34 rfl rfl rfl (by decide) dX8_next_241 rfl ?_
            refine V_aload_n 245 0 rfl _ rfl rfl dX8_next_244 rfl ?_
            refine V_getI 248 1 8 5 (nI 2) rfl flX8_49 rfl rfl rfl (by decide) dX8_next_245 rfl ?_
            refine V_iconst 249 (3) rfl dX8_next_248 rfl ?_
            refine V_icmp_ne 256 252 rfl dX8_next_249 rfl (fun c249 => ?_) (fun c249 => absurd c249 (by decide))
            refine V_iconst 257 (0) rfl dX8_next_256 rfl ?_
            refine V_iadd 258 dX8_next_257 rfl ?_
            refine V_rw (Int32.add_zero _) ?_
            refine V_putI 261 1 8 4 flX8_34 rfl rfl rfl (by decide) rfl dX8_next_258 rfl ?_
            rw [tr_4]
            refine V_ret_v rfl (Nat.le_of_ble_eq_true rfl) (fun h => absurd h (by decide)) (Nat.le_of_ble_eq_true rfl) (hq) dX8_next_261
      by_cases c_l : a < z
      · have k0 : V G mX8_next (d + 1 + 1) 0 0 0 0 79 [(0, rf G 1)] [] 103 (tr I a a 3 0 fc fp) R J Q := by
          by_cases c_d : dg (t a) = true
          · rw [tp_1 c_l c_d, nvF_go c_l c_d, sc_go c_l c_d, if_pos (by decide)] at hq
            have e2 := dg_iff.mp c_d
            have e3 := (bI_dg (hT.2.2.2 a)).mp c_d
            refine V_aload_n 80 0 rfl _ rfl rfl dX8_next_79 rfl ?_
            refine V_getI 83 1 8 4 (nI a) rfl flX8_34 rfl rfl rfl (by decide) dX8_next_80 rfl ?_
            refine V_aload_n 84 0 rfl _ rfl rfl dX8_next_83 rfl ?_
            refine V_getI 87 1 8 2 (nI z) hT.1 flX8_31 rfl rfl rfl (by decide) dX8_next_84 rfl ?_
            refine V_icmp_ge 174 90 rfl dX8_next_87 rfl (fun c87 => absurd c87 (nI_ge c_l (by omega))) (fun c87 => ?_)
            refine V_aload_n 91 0 rfl _ rfl rfl dX8_next_90 rfl ?_
            refine V_getR 94 1 8 0 2 (hRK 1 0 (by decide) (by decide) (by decide)) flX8_9 rfl rfl rfl (by decide) dX8_next_91 rfl ?_
            refine V_aload_n 95 0 rfl _ rfl rfl dX8_next_94 rfl ?_
            refine V_getI 98 1 8 4 (nI a) rfl flX8_34 rfl rfl rfl (by decide) dX8_next_95 rfl ?_
            refine V_baldN 99 2 600 a (bI (t a)) (hT.tr.2.2.1 _ (by omega)) (by omega) (by decide) rfl (by decide) dX8_next_98 rfl ?_
            refine V_bipush 101 (48) rfl dX8_next_99 rfl ?_
            refine V_icmp_lt 174 104 rfl dX8_next_101 rfl (fun c101 => absurd c101 (Int32.not_lt.mpr e3.1)) (fun c101 => ?_)
            refine V_aload_n 105 0 rfl _ rfl rfl dX8_next_104 rfl ?_
            refine V_getR 108 1 8 0 2 (hRK 1 0 (by decide) (by decide) (by decide)) flX8_9 rfl rfl rfl (by decide) dX8_next_105 rfl ?_
            refine V_aload_n 109 0 rfl _ rfl rfl dX8_next_108 rfl ?_
            refine V_getI 112 1 8 4 (nI a) rfl flX8_34 rfl rfl rfl (by decide) dX8_next_109 rfl ?_
            refine V_baldN 113 2 600 a (bI (t a)) (hT.tr.2.2.1 _ (by omega)) (by omega) (by decide) rfl (by decide) dX8_next_112 rfl ?_
            refine V_bipush 115 (57) rfl dX8_next_113 rfl ?_
            refine V_icmp_gt 174 118 rfl dX8_next_115 rfl (fun c115 => absurd c115 (Int32.not_lt.mpr e3.2)) (fun c115 => ?_)
            refine V_aload_n 119 0 rfl _ rfl rfl dX8_next_118 rfl ?_
            refine V_iconst 120 (1) rfl dX8_next_119 rfl ?_
            refine V_putI 123 1 8 5 flX8_49 rfl rfl rfl (by decide) rfl dX8_next_120 rfl ?_
            rw [show (1 : Int32) = nI 1 from rfl, tr_5]
            refine V_aload_n 124 0 rfl _ rfl rfl dX8_next_123 rfl ?_
            refine V_aload_n 125 0 rfl _ rfl rfl dX8_next_124 rfl ?_
            refine V_getI 128 1 8 6 (nI 0) rfl flX8_46 rfl rfl rfl (by decide) dX8_next_125 rfl ?_
            refine V_ldc 130 (100000) rfl ckX8_52 dX8_next_128 rfl ?_
            refine V_icmp_ge 156 133 rfl dX8_next_130 rfl (fun c130 => absurd c130 (nI_ge (b := 100000) (a := 0) (by omega) (by decide))) (fun c130 => ?_)
            refine V_aload_n 134 0 rfl _ rfl rfl dX8_next_133 rfl ?_
            refine V_getI 137 1 8 6 (nI 0) rfl flX8_46 rfl rfl rfl (by decide) dX8_next_134 rfl ?_
            refine V_bipush 139 (10) rfl dX8_next_137 rfl ?_
            refine V_imul 140 dX8_next_139 rfl ?_
            refine V_aload_n 141 0 rfl _ rfl rfl dX8_next_140 rfl ?_
            refine V_getR 144 1 8 0 2 (hRK 1 0 (by decide) (by decide) (by decide)) flX8_9 rfl rfl rfl (by decide) dX8_next_141 rfl ?_
            refine V_aload_n 145 0 rfl _ rfl rfl dX8_next_144 rfl ?_
            refine V_getI 148 1 8 4 (nI a) rfl flX8_34 rfl rfl rfl (by decide) dX8_next_145 rfl ?_
            refine V_baldN 149 2 600 a (bI (t a)) (hT.tr.2.2.1 _ (by omega)) (by omega) (by decide) rfl (by decide) dX8_next_148 rfl ?_
            refine V_iadd 150 dX8_next_149 rfl ?_
            refine V_bipush 152 (48) rfl dX8_next_150 rfl ?_
            refine V_isub 153 dX8_next_152 rfl ?_
            refine V_rw (nv_s e2.1 e2.2) ?_
            refine V_goto 158 rfl dX8_next_153 ?_
            refine V_putI 161 1 8 6 flX8_46 rfl rfl rfl (by decide) rfl dX8_next_158 rfl ?_
            rw [tr_6]
            refine V_aload_n 162 0 rfl _ rfl rfl dX8_next_161 rfl ?_
            refine V_dup 163 rfl dX8_next_162 rfl ?_
            refine V_getI 166 1 8 4 (nI a) rfl flX8_34 rfl rfl rfl (by decide) dX8_next_163 rfl ?_
            refine V_iconst 167 (1) rfl dX8_next_166 rfl ?_
            refine V_iadd 168 dX8_next_167 rfl ?_
            refine V_rw (nI_1 a) ?_
            refine V_putI 171 1 8 4 flX8_34 rfl rfl rfl (by decide) rfl dX8_next_168 rfl ?_
            rw [tr_4]
            refine V_goto 79 rfl dX8_next_171 ?_
            exact kD (z - (a + 1)) (a + 1) _ (Nat.le_refl _) (by omega) (by omega) hq
          · have k1 : V G mX8_next (d + 1 + 1) 0 0 0 0 174 [(0, rf G 1)] [] 103 (tr I a a 3 0 fc fp) R J Q := by
              by_cases c_e : le_ (t a) = true
              · rw [tp_2 c_l c_d c_e, sc_go c_l c_e] at hq
                have e3 := (bI_le (hT.2.2.2 a)).mp c_e
                refine V_aload_n 175 0 rfl _ rfl rfl dX8_next_174 rfl ?_
                refine V_getI 178 1 8 5 (nI 3) rfl flX8_49 rfl rfl rfl (by decide) dX8_next_175 rfl ?_
                refine V_iconst 179 (1) rfl dX8_next_178 rfl ?_
                refine V_icmp_eq 239 182 rfl dX8_next_179 rfl (fun c179 => absurd c179 (by decide)) (fun c179 => ?_)
                refine V_aload_n 183 0 rfl _ rfl rfl dX8_next_182 rfl ?_
                refine V_getI 186 1 8 4 (nI a) rfl flX8_34 rfl rfl rfl (by decide) dX8_next_183 rfl ?_
                refine V_aload_n 187 0 rfl _ rfl rfl dX8_next_186 rfl ?_
                refine V_getI 190 1 8 2 (nI z) hT.1 flX8_31 rfl rfl rfl (by decide) dX8_next_187 rfl ?_
                refine V_icmp_ge 239 193 rfl dX8_next_190 rfl (fun c190 => absurd c190 (nI_ge c_l (by omega))) (fun c190 => ?_)
                refine V_aload_n 194 0 rfl _ rfl rfl dX8_next_193 rfl ?_
                refine V_getR 197 1 8 0 2 (hRK 1 0 (by decide) (by decide) (by decide)) flX8_9 rfl rfl rfl (by decide) dX8_next_194 rfl ?_
                refine V_aload_n 198 0 rfl _ rfl rfl dX8_next_197 rfl ?_
                refine V_getI 201 1 8 4 (nI a) rfl flX8_34 rfl rfl rfl (by decide) dX8_next_198 rfl ?_
                refine V_baldN 202 2 600 a (bI (t a)) (hT.tr.2.2.1 _ (by omega)) (by omega) (by decide) rfl (by decide) dX8_next_201 rfl ?_
                refine V_bipush 204 (97) rfl dX8_next_202 rfl ?_
                refine V_icmp_lt 239 207 rfl dX8_next_204 rfl (fun c204 => absurd c204 (Int32.not_lt.mpr e3.1)) (fun c204 => ?_)
                refine V_aload_n 208 0 rfl _ rfl rfl dX8_next_207 rfl ?_
                refine V_getR 211 1 8 0 2 (hRK 1 0 (by decide) (by decide) (by decide)) flX8_9 rfl rfl rfl (by decide) dX8_next_208 rfl ?_
                refine V_aload_n 212 0 rfl _ rfl rfl dX8_next_211 rfl ?_
                refine V_getI 215 1 8 4 (nI a) rfl flX8_34 rfl rfl rfl (by decide) dX8_next_212 rfl ?_
                refine V_baldN 216 2 600 a (bI (t a)) (hT.tr.2.2.1 _ (by omega)) (by omega) (by decide) rfl (by decide) dX8_next_215 rfl ?_
                refine V_bipush 218 (122) rfl dX8_next_216 rfl ?_
                refine V_icmp_gt 239 221 rfl dX8_next_218 rfl (fun c218 => absurd c218 (Int32.not_lt.mpr e3.2)) (fun c218 => ?_)
                refine V_aload_n 222 0 rfl _ rfl rfl dX8_next_221 rfl ?_
                refine V_iconst 223 (2) rfl dX8_next_222 rfl ?_
                refine V_putI 226 1 8 5 flX8_49 rfl rfl rfl (by decide) rfl dX8_next_223 rfl ?_
                rw [show (2 : Int32) = nI 2 from rfl, tr_5]
                refine V_aload_n 227 0 rfl _ rfl rfl dX8_next_226 rfl ?_
                refine V_dup 228 rfl dX8_next_227 rfl ?_
                refine V_getI 231 1 8 4 (nI a) rfl flX8_34 rfl rfl rfl (by decide) dX8_next_228 rfl ?_
                refine V_iconst 232 (1) rfl dX8_next_231 rfl ?_
                refine V_iadd 233 dX8_next_232 rfl ?_
                refine V_rw (nI_1 a) ?_
                refine V_putI 236 1 8 4 flX8_34 rfl rfl rfl (by decide) rfl dX8_next_233 rfl ?_
                rw [tr_4]
                refine V_goto 174 rfl dX8_next_236 ?_
                exact kL (z - (a + 1)) (a + 1) (Nat.le_refl _) (by omega) hq
              · rw [tp_3 c_l c_d c_e] at hq
                refine V_aload_n 175 0 rfl _ rfl rfl dX8_next_174 rfl ?_
                refine V_getI 178 1 8 5 (nI 3) rfl flX8_49 rfl rfl rfl (by decide) dX8_next_175 rfl ?_
                refine V_iconst 179 (1) rfl dX8_next_178 rfl ?_
                refine V_icmp_eq 239 182 rfl dX8_next_179 rfl (fun c179 => absurd c179 (by decide)) (fun c179 => ?_)
                refine V_aload_n 183 0 rfl _ rfl rfl dX8_next_182 rfl ?_
                refine V_getI 186 1 8 4 (nI a) rfl flX8_34 rfl rfl rfl (by decide) dX8_next_183 rfl ?_
                refine V_aload_n 187 0 rfl _ rfl rfl dX8_next_186 rfl ?_
                refine V_getI 190 1 8 2 (nI z) hT.1 flX8_31 rfl rfl rfl (by decide) dX8_next_187 rfl ?_
                refine V_icmp_ge 239 193 rfl dX8_next_190 rfl (fun c190 => absurd c190 (nI_ge c_l (by omega))) (fun c190 => ?_)
                refine V_aload_n 194 0 rfl _ rfl rfl dX8_next_193 rfl ?_
                refine V_getR 197 1 8 0 2 (hRK 1 0 (by decide) (by decide) (by decide)) flX8_9 rfl rfl rfl (by decide) dX8_next_194 rfl ?_
                refine V_aload_n 198 0 rfl _ rfl rfl dX8_next_197 rfl ?_
                refine V_getI 201 1 8 4 (nI a) rfl flX8_34 rfl rfl rfl (by decide) dX8_next_198 rfl ?_
                refine V_baldN 202 2 600 a (bI (t a)) (hT.tr.2.2.1 _ (by omega)) (by omega) (by decide) rfl (by decide) dX8_next_201 rfl ?_
                refine V_bipush 204 (97) rfl dX8_next_202 rfl ?_
                refine V_icmp_lt 239 207 rfl dX8_next_204 rfl (fun c204 => ?_) (fun c204 => ?_)
                · refine V_aload_n 240 0 rfl _ rfl rfl dX8_next_239 rfl ?_
                  refine V_dup 241 rfl dX8_next_240 rfl ?_
                  refine V_getI 244 1 8 4 (nI a) rfl flX8_34 rfl rfl rfl (by decide) dX8_next_241 rfl ?_
                  refine V_aload_n 245 0 rfl _ rfl rfl dX8_next_244 rfl ?_
                  refine V_getI 248 1 8 5 (nI 3) rfl flX8_49 rfl rfl rfl (by decide) dX8_next_245 rfl ?_
                  refine V_iconst 249 (3) rfl dX8_next_248 rfl ?_
                  refine V_icmp_ne 256 252 rfl dX8_next_249 rfl (fun c249 => absurd rfl c249) (fun c249 => ?_)
                  refine V_iconst 253 (1) rfl dX8_next_252 rfl ?_
                  refine V_goto 257 rfl dX8_next_253 ?_
                  refine V_iadd 258 dX8_next_257 rfl ?_
                  refine V_rw (nI_1 a) ?_
                  refine V_putI 261 1 8 4 flX8_34 rfl rfl rfl (by decide) rfl dX8_next_258 rfl ?_
                  rw [tr_4]
                  refine V_ret_v rfl (Nat.le_of_ble_eq_true rfl) (fun h => absurd h (by decide)) (Nat.le_of_ble_eq_true rfl) (hq) dX8_next_261
                · refine V_aload_n 208 0 rfl _ rfl rfl dX8_next_207 rfl ?_
                  refine V_getR 211 1 8 0 2 (hRK 1 0 (by decide) (by decide) (by decide)) flX8_9 rfl rfl rfl (by decide) dX8_next_208 rfl ?_
                  refine V_aload_n 212 0 rfl _ rfl rfl dX8_next_211 rfl ?_
                  refine V_getI 215 1 8 4 (nI a) rfl flX8_34 rfl rfl rfl (by decide) dX8_next_212 rfl ?_
                  refine V_baldN 216 2 600 a (bI (t a)) (hT.tr.2.2.1 _ (by omega)) (by omega) (by decide) rfl (by decide) dX8_next_215 rfl ?_
                  refine V_bipush 218 (122) rfl dX8_next_216 rfl ?_
                  refine V_icmp_gt 239 221 rfl dX8_next_218 rfl (fun c218 => ?_) (fun c218 => ?_)
                  · refine V_aload_n 240 0 rfl _ rfl rfl dX8_next_239 rfl ?_
                    refine V_dup 241 rfl dX8_next_240 rfl ?_
                    refine V_getI 244 1 8 4 (nI a) rfl flX8_34 rfl rfl rfl (by decide) dX8_next_241 rfl ?_
                    refine V_aload_n 245 0 rfl _ rfl rfl dX8_next_244 rfl ?_
                    refine V_getI 248 1 8 5 (nI 3) rfl flX8_49 rfl rfl rfl (by decide) dX8_next_245 rfl ?_
                    refine V_iconst 249 (3) rfl dX8_next_248 rfl ?_
                    refine V_icmp_ne 256 252 rfl dX8_next_249 rfl (fun c249 => absurd rfl c249) (fun c249 => ?_)
                    refine V_iconst 253 (1) rfl dX8_next_252 rfl ?_
                    refine V_goto 257 rfl dX8_next_253 ?_
                    refine V_iadd 258 dX8_next_257 rfl ?_
                    refine V_rw (nI_1 a) ?_
                    refine V_putI 261 1 8 4 flX8_34 rfl rfl rfl (by decide) rfl dX8_next_258 rfl ?_
                    rw [tr_4]
                    refine V_ret_v rfl (Nat.le_of_ble_eq_true rfl) (fun h => absurd h (by decide)) (Nat.le_of_ble_eq_true rfl) (hq) dX8_next_261
                  · exact absurd ((bI_le (hT.2.2.2 a)).mpr ⟨Int32.not_lt.mp c204, Int32.not_lt.mp c218⟩) c_e
            refine V_aload_n 80 0 rfl _ rfl rfl dX8_next_79 rfl ?_
            refine V_getI 83 1 8 4 (nI a) rfl flX8_34 rfl rfl rfl (by decide) dX8_next_80 rfl ?_
            refine V_aload_n 84 0 rfl _ rfl rfl dX8_next_83 rfl ?_
            refine V_getI 87 1 8 2 (nI z) hT.1 flX8_31 rfl rfl rfl (by decide) dX8_next_84 rfl ?_
            refine V_icmp_ge 174 90 rfl dX8_next_87 rfl (fun c87 => absurd c87 (nI_ge c_l (by omega))) (fun c87 => ?_)
            refine V_aload_n 91 0 rfl _ rfl rfl dX8_next_90 rfl ?_
            refine V_getR 94 1 8 0 2 (hRK 1 0 (by decide) (by decide) (by decide)) flX8_9 rfl rfl rfl (by decide) dX8_next_91 rfl ?_
            refine V_aload_n 95 0 rfl _ rfl rfl dX8_next_94 rfl ?_
            refine V_getI 98 1 8 4 (nI a) rfl flX8_34 rfl rfl rfl (by decide) dX8_next_95 rfl ?_
            refine V_baldN 99 2 600 a (bI (t a)) (hT.tr.2.2.1 _ (by omega)) (by omega) (by decide) rfl (by decide) dX8_next_98 rfl ?_
            refine V_bipush 101 (48) rfl dX8_next_99 rfl ?_
            refine V_icmp_lt 174 104 rfl dX8_next_101 rfl (fun c101 => ?_) (fun c101 => ?_)
            · exact k1
            · refine V_aload_n 105 0 rfl _ rfl rfl dX8_next_104 rfl ?_
              refine V_getR 108 1 8 0 2 (hRK 1 0 (by decide) (by decide) (by decide)) flX8_9 rfl rfl rfl (by decide) dX8_next_105 rfl ?_
              refine V_aload_n 109 0 rfl _ rfl rfl dX8_next_108 rfl ?_
              refine V_getI 112 1 8 4 (nI a) rfl flX8_34 rfl rfl rfl (by decide) dX8_next_109 rfl ?_
              refine V_baldN 113 2 600 a (bI (t a)) (hT.tr.2.2.1 _ (by omega)) (by omega) (by decide) rfl (by decide) dX8_next_112 rfl ?_
              refine V_bipush 115 (57) rfl dX8_next_113 rfl ?_
              refine V_icmp_gt 174 118 rfl dX8_next_115 rfl (fun c115 => ?_) (fun c115 => ?_)
              · exact k1
              · exact absurd ((bI_dg (hT.2.2.2 a)).mpr ⟨Int32.not_lt.mp c101, Int32.not_lt.mp c115⟩) c_d
        refine V_aload_n 47 0 rfl _ rfl rfl dX8_next_46 rfl ?_
        refine V_aload_n 48 0 rfl _ rfl rfl dX8_next_47 rfl ?_
        refine V_getI 51 1 8 3 (nI a) rfl flX8_43 rfl rfl rfl (by decide) dX8_next_48 rfl ?_
        refine V_putI 54 1 8 4 flX8_34 rfl rfl rfl (by decide) rfl dX8_next_51 rfl ?_
        rw [tr_4]
        refine V_aload_n 55 0 rfl _ rfl rfl dX8_next_54 rfl ?_
        refine V_iconst 56 (0) rfl dX8_next_55 rfl ?_
        refine V_putI 59 1 8 6 flX8_46 rfl rfl rfl (by decide) rfl dX8_next_56 rfl ?_
        rw [show (0 : Int32) = nI 0 from rfl, tr_6]
        refine V_aload_n 60 0 rfl _ rfl rfl dX8_next_59 rfl ?_
        refine V_aload_n 61 0 rfl _ rfl rfl dX8_next_60 rfl ?_
        refine V_getI 64 1 8 3 (nI a) rfl flX8_43 rfl rfl rfl (by decide) dX8_next_61 rfl ?_
        refine V_aload_n 65 0 rfl _ rfl rfl dX8_next_64 rfl ?_
        refine V_getI 68 1 8 2 (nI z) hT.1 flX8_31 rfl rfl rfl (by decide) dX8_next_65 rfl ?_
        refine V_icmp_ge 75 71 rfl dX8_next_68 rfl (fun c68 => absurd c68 (nI_ge c_l (by omega))) (fun c68 => ?_)
        refine V_iconst 72 (3) rfl dX8_next_71 rfl ?_
        refine V_goto 76 rfl dX8_next_72 ?_
        refine V_putI 79 1 8 5 flX8_49 rfl rfl rfl (by decide) rfl dX8_next_76 rfl ?_
        rw [show (3 : Int32) = nI 3 from rfl, tr_5]
        exact k0
      · rw [tp_0 (by omega)] at hq
        refine V_aload_n 47 0 rfl _ rfl rfl dX8_next_46 rfl ?_
        refine V_aload_n 48 0 rfl _ rfl rfl dX8_next_47 rfl ?_
        refine V_getI 51 1 8 3 (nI a) rfl flX8_43 rfl rfl rfl (by decide) dX8_next_48 rfl ?_
        refine V_putI 54 1 8 4 flX8_34 rfl rfl rfl (by decide) rfl dX8_next_51 rfl ?_
        rw [tr_4]
        refine V_aload_n 55 0 rfl _ rfl rfl dX8_next_54 rfl ?_
        refine V_iconst 56 (0) rfl dX8_next_55 rfl ?_
        refine V_putI 59 1 8 6 flX8_46 rfl rfl rfl (by decide) rfl dX8_next_56 rfl ?_
        rw [show (0 : Int32) = nI 0 from rfl, tr_6]
        refine V_aload_n 60 0 rfl _ rfl rfl dX8_next_59 rfl ?_
        refine V_aload_n 61 0 rfl _ rfl rfl dX8_next_60 rfl ?_
        refine V_getI 64 1 8 3 (nI a) rfl flX8_43 rfl rfl rfl (by decide) dX8_next_61 rfl ?_
        refine V_aload_n 65 0 rfl _ rfl rfl dX8_next_64 rfl ?_
        refine V_getI 68 1 8 2 (nI z) hT.1 flX8_31 rfl rfl rfl (by decide) dX8_next_65 rfl ?_
        refine V_icmp_ge 75 71 rfl dX8_next_68 rfl (fun c68 => ?_) (fun c68 => absurd (nI_le (show z ≤ a by omega) (by omega)) c68)
        refine V_iconst 76 (0) rfl dX8_next_75 rfl ?_
        refine V_putI 79 1 8 5 flX8_49 rfl rfl rfl (by decide) rfl dX8_next_76 rfl ?_
        rw [show (0 : Int32) = nI 0 from rfl, tr_5]
        refine V_aload_n 80 0 rfl _ rfl rfl dX8_next_79 rfl ?_
        refine V_getI 83 1 8 4 (nI a) rfl flX8_34 rfl rfl rfl (by decide) dX8_next_80 rfl ?_
        refine V_aload_n 84 0 rfl _ rfl rfl dX8_next_83 rfl ?_
        refine V_getI 87 1 8 2 (nI z) hT.1 flX8_31 rfl rfl rfl (by decide) dX8_next_84 rfl ?_
        refine V_icmp_ge 174 90 rfl dX8_next_87 rfl (fun c87 => ?_) (fun c87 => absurd (nI_le (show z ≤ a by omega) (by omega)) c87)
        refine V_aload_n 175 0 rfl _ rfl rfl dX8_next_174 rfl ?_
        refine V_getI 178 1 8 5 (nI 0) rfl flX8_49 rfl rfl rfl (by decide) dX8_next_175 rfl ?_
        refine V_iconst 179 (1) rfl dX8_next_178 rfl ?_
        refine V_icmp_eq 239 182 rfl dX8_next_179 rfl (fun c179 => absurd c179 (by decide)) (fun c179 => ?_)
        refine V_aload_n 183 0 rfl _ rfl rfl dX8_next_182 rfl ?_
        refine V_getI 186 1 8 4 (nI a) rfl flX8_34 rfl rfl rfl (by decide) dX8_next_183 rfl ?_
        refine V_aload_n 187 0 rfl _ rfl rfl dX8_next_186 rfl ?_
        refine V_getI 190 1 8 2 (nI z) hT.1 flX8_31 rfl rfl rfl (by decide) dX8_next_187 rfl ?_
        refine V_icmp_ge 239 193 rfl dX8_next_190 rfl (fun c190 => ?_) (fun c190 => absurd (nI_le (show z ≤ a by omega) (by omega)) c190)
        refine V_aload_n 240 0 rfl _ rfl rfl dX8_next_239 rfl ?_
        refine V_dup 241 rfl dX8_next_240 rfl ?_
        refine V_getI 244 1 8 4 (nI a) rfl flX8_34 rfl rfl rfl (by decide) dX8_next_241 rfl ?_
        refine V_aload_n 245 0 rfl _ rfl rfl dX8_next_244 rfl ?_
        refine V_getI 248 1 8 5 (nI 0) rfl flX8_49 rfl rfl rfl (by decide) dX8_next_245 rfl ?_
        refine V_iconst 249 (3) rfl dX8_next_248 rfl ?_
        refine V_icmp_ne 256 252 rfl dX8_next_249 rfl (fun c249 => ?_) (fun c249 => absurd c249 (by decide))
        refine V_iconst 257 (0) rfl dX8_next_256 rfl ?_
        refine V_iadd 258 dX8_next_257 rfl ?_
        refine V_rw (Int32.add_zero _) ?_
        refine V_putI 261 1 8 4 flX8_34 rfl rfl rfl (by decide) rfl dX8_next_258 rfl ?_
        rw [tr_4]
        refine V_ret_v rfl (Nat.le_of_ble_eq_true rfl) (fun h => absurd h (by decide)) (Nat.le_of_ble_eq_true rfl) (hq) dX8_next_261
    intro f
    induction f with
    | zero =>
      intro a hf ha hq
      have c_l : ¬ a < z := by omega
      rw [sk_st (fun h => c_l h.1)] at hq
      refine V_aload_n 9 0 rfl _ rfl rfl dX8_next_8 rfl ?_
      refine V_getI 12 1 8 3 (nI a) rfl flX8_43 rfl rfl rfl (by decide) dX8_next_9 rfl ?_
      refine V_aload_n 13 0 rfl _ rfl rfl dX8_next_12 rfl ?_
      refine V_getI 16 1 8 2 (nI z) hT.1 flX8_31 rfl rfl rfl (by decide) dX8_next_13 rfl ?_
      refine V_icmp_ge 46 19 rfl dX8_next_16 rfl (fun c16 => ?_) (fun c16 => absurd (nI_le (show z ≤ a by omega) (by omega)) c16)
      exact tail a ha hq
    | succ f ih =>
      intro a hf ha hq
      by_cases c_l : a < z
      · by_cases c_s : t a = 32
        · refine V_aload_n 9 0 rfl _ rfl rfl dX8_next_8 rfl ?_
          refine V_getI 12 1 8 3 (nI a) rfl flX8_43 rfl rfl rfl (by decide) dX8_next_9 rfl ?_
          refine V_aload_n 13 0 rfl _ rfl rfl dX8_next_12 rfl ?_
          refine V_getI 16 1 8 2 (nI z) hT.1 flX8_31 rfl rfl rfl (by decide) dX8_next_13 rfl ?_
          refine V_icmp_ge 46 19 rfl dX8_next_16 rfl (fun c16 => absurd c16 (nI_ge c_l (by omega))) (fun c16 => ?_)
          refine V_aload_n 20 0 rfl _ rfl rfl dX8_next_19 rfl ?_
          refine V_getR 23 1 8 0 2 (hRK 1 0 (by decide) (by decide) (by decide)) flX8_9 rfl rfl rfl (by decide) dX8_next_20 rfl ?_
          refine V_aload_n 24 0 rfl _ rfl rfl dX8_next_23 rfl ?_
          refine V_getI 27 1 8 3 (nI a) rfl flX8_43 rfl rfl rfl (by decide) dX8_next_24 rfl ?_
          refine V_baldN 28 2 600 a (bI (t a)) (hT.tr.2.2.1 _ (by omega)) (by omega) (by decide) rfl (by decide) dX8_next_27 rfl ?_
          refine V_bipush 30 (32) rfl dX8_next_28 rfl ?_
          refine V_icmp_ne 46 33 rfl dX8_next_30 rfl (fun c30 => absurd ((bI_c (hT.2.2.2 a) (by decide)).mpr c_s) c30) (fun c30 => ?_)
          refine V_aload_n 34 0 rfl _ rfl rfl dX8_next_33 rfl ?_
          refine V_dup 35 rfl dX8_next_34 rfl ?_
          refine V_getI 38 1 8 3 (nI a) rfl flX8_43 rfl rfl rfl (by decide) dX8_next_35 rfl ?_
          refine V_iconst 39 (1) rfl dX8_next_38 rfl ?_
          refine V_iadd 40 dX8_next_39 rfl ?_
          refine V_rw (nI_add a 1) ?_
          refine V_putI 43 1 8 3 flX8_43 rfl rfl rfl (by decide) rfl dX8_next_40 rfl ?_
          rw [tr_3]
          refine V_goto 8 rfl dX8_next_43 ?_
          exact ih (a + 1) (by omega) (by omega) (by rw [← sk_go c_l c_s]; exact hq)
        · rw [sk_st (fun h => c_s h.2)] at hq
          refine V_aload_n 9 0 rfl _ rfl rfl dX8_next_8 rfl ?_
          refine V_getI 12 1 8 3 (nI a) rfl flX8_43 rfl rfl rfl (by decide) dX8_next_9 rfl ?_
          refine V_aload_n 13 0 rfl _ rfl rfl dX8_next_12 rfl ?_
          refine V_getI 16 1 8 2 (nI z) hT.1 flX8_31 rfl rfl rfl (by decide) dX8_next_13 rfl ?_
          refine V_icmp_ge 46 19 rfl dX8_next_16 rfl (fun c16 => absurd c16 (nI_ge c_l (by omega))) (fun c16 => ?_)
          refine V_aload_n 20 0 rfl _ rfl rfl dX8_next_19 rfl ?_
          refine V_getR 23 1 8 0 2 (hRK 1 0 (by decide) (by decide) (by decide)) flX8_9 rfl rfl rfl (by decide) dX8_next_20 rfl ?_
          refine V_aload_n 24 0 rfl _ rfl rfl dX8_next_23 rfl ?_
          refine V_getI 27 1 8 3 (nI a) rfl flX8_43 rfl rfl rfl (by decide) dX8_next_24 rfl ?_
          refine V_baldN 28 2 600 a (bI (t a)) (hT.tr.2.2.1 _ (by omega)) (by omega) (by decide) rfl (by decide) dX8_next_27 rfl ?_
          refine V_bipush 30 (32) rfl dX8_next_28 rfl ?_
          refine V_icmp_ne 46 33 rfl dX8_next_30 rfl (fun c30 => ?_) (fun c30 => absurd ((bI_c (hT.2.2.2 a) (c := 32) (by decide)).mp c30) c_s)
          exact tail a ha hq
      · rw [sk_st (fun h => c_l h.1)] at hq
        refine V_aload_n 9 0 rfl _ rfl rfl dX8_next_8 rfl ?_
        refine V_getI 12 1 8 3 (nI a) rfl flX8_43 rfl rfl rfl (by decide) dX8_next_9 rfl ?_
        refine V_aload_n 13 0 rfl _ rfl rfl dX8_next_12 rfl ?_
        refine V_getI 16 1 8 2 (nI z) hT.1 flX8_31 rfl rfl rfl (by decide) dX8_next_13 rfl ?_
        refine V_icmp_ge 46 19 rfl dX8_next_16 rfl (fun c16 => ?_) (fun c16 => absurd (nI_le (show z ≤ a by omega) (by omega)) c16)
        exact tail a ha hq
  show V _ _ _ _ _ _ _ _ [(0, rf G 1)] [] _ _ _ _ _
  refine V_aload_n 1 0 rfl _ rfl rfl dX8_next_0 rfl ?_
  refine V_aload_n 2 0 rfl _ rfl rfl dX8_next_1 rfl ?_
  refine V_getI 5 1 8 4 (nI e) rfl flX8_34 rfl rfl rfl (by decide) dX8_next_2 rfl ?_
  refine V_putI 8 1 8 3 flX8_43 rfl rfl rfl (by decide) rfl dX8_next_5 rfl ?_
  rw [tr_3]
  exact key (z - e) e (Nat.le_refl _) he hq
