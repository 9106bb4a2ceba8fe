/-! ===== the reference: leaves ===== -/
theorem c_X11_thrown {G : Gx} {d : Nat} {I : FI} {R : FR} {J : FJ} {Q : Po} (hq : Q (.inl (some (.int (I 69 0)))) 103 I R J) : Cc G mX11_thrown d 0 0 [rf G 69] 103 I R J Q := by
  show V _ _ _ _ _ _ _ _ [(0, rf G 69)] [] _ _ _ _ _
  refine V_aload_n 1 0 rfl _ rfl rfl dX11_thrown_0 rfl ?_
  refine V_getI 4 69 11 0 (I 69 0) rfl flX11_3 rfl rfl rfl (by decide) dX11_thrown_1 rfl ?_
  refine V_ret_i rfl rfl (Nat.le_refl _) (fun h => absurd h (by decide)) (Nat.le_refl _) (hq) dX11_thrown_4
theorem c_X11_fine {G : Gx} {d : Nat} {I : FI} {R : FR} {J : FJ} {Q : Po} (h1 : I 69 5 = -1 → Q (.inl (some (.int 1))) 103 I R J) (h0 : ¬ I 69 5 = -1 → Q (.inl (some (.int 0))) 103 I R J) : Cc G mX11_fine d 0 0 [rf G 69] 103 I R J Q := by
  show V _ _ _ _ _ _ _ _ [(0, rf G 69)] [] _ _ _ _ _
  refine V_aload_n 1 0 rfl _ rfl rfl dX11_fine_0 rfl ?_
  refine V_getI 4 69 11 5 (I 69 5) rfl flX11_123 rfl rfl rfl (by decide) dX11_fine_1 rfl ?_
  refine V_iconst 5 (-1) rfl dX11_fine_4 rfl ?_
  refine V_icmp_ne 12 8 rfl dX11_fine_5 rfl (fun c5 => ?_) (fun c5 => ?_)
  · refine V_iconst 13 (0) rfl dX11_fine_12 rfl ?_
    refine V_ret_i rfl (by first | rfl | decide) (Nat.le_refl _) (fun h => absurd h (by decide)) (Nat.le_refl _) (h0 c5) dX11_fine_13
  · refine V_iconst 9 (1) rfl dX11_fine_8 rfl ?_
    refine V_goto 13 rfl dX11_fine_9 ?_
    refine V_ret_i rfl (by first | rfl | decide) (Nat.le_refl _) (fun h => absurd h (by decide)) (Nat.le_refl _) (h1 c5) dX11_fine_13
theorem c_X11_within {G : Gx} {d : Nat} {I : FI} {R : FR} {J : FJ} {Q : Po} {v lo hi : Int32} (h1 : lo ≤ v → v ≤ hi → Q (.inl (some (.int 1))) 103 I R J) (h0 : ¬ (lo ≤ v ∧ v ≤ hi) → Q (.inl (some (.int 0))) 103 I R J) : Cc G mX11_within d 0 0 [.int v, .int lo, .int hi] 103 I R J Q := by
  show V _ _ _ _ _ _ _ _ [(0, .int v), (1, .int lo), (2, .int hi)] [] _ _ _ _ _
  refine V_iload_n 1 0 rfl rfl dX11_within_0 rfl ?_
  refine V_iload_n 2 1 rfl rfl dX11_within_1 rfl ?_
  refine V_icmp_lt 14 5 rfl dX11_within_2 rfl (fun c2 => ?_) (fun c2 => ?_)
  · refine V_iconst 15 (0) rfl dX11_within_14 rfl ?_
    refine V_ret_i rfl (by first | rfl | decide) (Nat.le_refl _) (fun h => absurd h (by decide)) (Nat.le_refl _) (h0 (fun h => absurd c2 (Int32.not_lt.mpr h.1))) dX11_within_15
  · refine V_iload_n 6 0 rfl rfl dX11_within_5 rfl ?_
    refine V_iload_n 7 2 rfl rfl dX11_within_6 rfl ?_
    refine V_icmp_gt 14 10 rfl dX11_within_7 rfl (fun c7 => ?_) (fun c7 => ?_)
    · refine V_iconst 15 (0) rfl dX11_within_14 rfl ?_
      refine V_ret_i rfl (by first | rfl | decide) (Nat.le_refl _) (fun h => absurd h (by decide)) (Nat.le_refl _) (h0 (fun h => absurd c7 (Int32.not_lt.mpr h.2))) dX11_within_15
    · refine V_iconst 11 (1) rfl dX11_within_10 rfl ?_
      refine V_goto 15 rfl dX11_within_11 ?_
      refine V_ret_i rfl (by first | rfl | decide) (Nat.le_refl _) (fun h => absurd h (by decide)) (Nat.le_refl _) (h1 (Int32.not_lt.mp c2) (Int32.not_lt.mp c7)) dX11_within_15
theorem c_X11_isSmall {G : Gx} {d : Nat} {I : FI} {R : FR} {J : FJ} {Q : Po} {v : Int32} (h1 : 97 ≤ v → v ≤ 122 → Q (.inl (some (.int 1))) 103 I R J) (h0 : ¬ (97 ≤ v ∧ v ≤ 122) → Q (.inl (some (.int 0))) 103 I R J) : Cc G mX11_isSmall d 0 0 [.int v] 103 I R J Q := by
  show V _ _ _ _ _ _ _ _ [(0, .int v)] [] _ _ _ _ _
  refine V_iload_n 1 0 rfl rfl dX11_isSmall_0 rfl ?_
  refine V_bipush 3 (97) rfl dX11_isSmall_1 rfl ?_
  refine V_icmp_lt 16 6 rfl dX11_isSmall_3 rfl (fun c3 => ?_) (fun c3 => ?_)
  · refine V_iconst 17 (0) rfl dX11_isSmall_16 rfl ?_
    refine V_ret_i rfl (by first | rfl | decide) (Nat.le_refl _) (fun h => absurd h (by decide)) (Nat.le_refl _) (h0 (fun h => absurd c3 (Int32.not_lt.mpr h.1))) dX11_isSmall_17
  · refine V_iload_n 7 0 rfl rfl dX11_isSmall_6 rfl ?_
    refine V_bipush 9 (122) rfl dX11_isSmall_7 rfl ?_
    refine V_icmp_gt 16 12 rfl dX11_isSmall_9 rfl (fun c9 => ?_) (fun c9 => ?_)
    · refine V_iconst 17 (0) rfl dX11_isSmall_16 rfl ?_
      refine V_ret_i rfl (by first | rfl | decide) (Nat.le_refl _) (fun h => absurd h (by decide)) (Nat.le_refl _) (h0 (fun h => absurd c9 (Int32.not_lt.mpr h.2))) dX11_isSmall_17
    · refine V_iconst 13 (1) rfl dX11_isSmall_12 rfl ?_
      refine V_goto 17 rfl dX11_isSmall_13 ?_
      refine V_ret_i rfl (by first | rfl | decide) (Nat.le_refl _) (fun h => absurd h (by decide)) (Nat.le_refl _) (h1 (Int32.not_lt.mp c3) (Int32.not_lt.mp c9)) dX11_isSmall_17
theorem c_X11_isDigit {G : Gx} {d : Nat} {I : FI} {R : FR} {J : FJ} {Q : Po} {v : Int32} (h1 : 48 ≤ v → v ≤ 57 → Q (.inl (some (.int 1))) 103 I R J) (h0 : ¬ (48 ≤ v ∧ v ≤ 57) → Q (.inl (some (.int 0))) 103 I R J) : Cc G mX11_isDigit d 0 0 [.int v] 103 I R J Q := by
  show V _ _ _ _ _ _ _ _ [(0, .int v)] [] _ _ _ _ _
  refine V_iload_n 1 0 rfl rfl dX11_isDigit_0 rfl ?_
  refine V_bipush 3 (48) rfl dX11_isDigit_1 rfl ?_
  refine V_icmp_lt 16 6 rfl dX11_isDigit_3 rfl (fun c3 => ?_) (fun c3 => ?_)
  · refine V_iconst 17 (0) rfl dX11_isDigit_16 rfl ?_
    refine V_ret_i rfl (by first | rfl | decide) (Nat.le_refl _) (fun h => absurd h (by decide)) (Nat.le_refl _) (h0 (fun h => absurd c3 (Int32.not_lt.mpr h.1))) dX11_isDigit_17
  · refine V_iload_n 7 0 rfl rfl dX11_isDigit_6 rfl ?_
    refine V_bipush 9 (57) rfl dX11_isDigit_7 rfl ?_
    refine V_icmp_gt 16 12 rfl dX11_isDigit_9 rfl (fun c9 => ?_) (fun c9 => ?_)
    · refine V_iconst 17 (0) rfl dX11_isDigit_16 rfl ?_
      refine V_ret_i rfl (by first | rfl | decide) (Nat.le_refl _) (fun h => absurd h (by decide)) (Nat.le_refl _) (h0 (fun h => absurd c9 (Int32.not_lt.mpr h.2))) dX11_isDigit_17
    · refine V_iconst 13 (1) rfl dX11_isDigit_12 rfl ?_
      refine V_goto 17 rfl dX11_isDigit_13 ?_
      refine V_ret_i rfl (by first | rfl | decide) (Nat.le_refl _) (fun h => absurd h (by decide)) (Nat.le_refl _) (h1 (Int32.not_lt.mp c3) (Int32.not_lt.mp c9)) dX11_isDigit_17
/-- the reader's place, its FAULT's place and kind, over a state -/
def lx (I : FI) (a : Nat) (b k : Int32) : FI := fun o => if o = 69 then (fun j => if j = 4 then nI a else if j = 5 then b else if j = 6 then k else I 69 j) else I o
theorem lx_a (I : FI) (a a' : Nat) (b k : Int32) : up2 (lx I a b k) 69 4 (nI a') = lx I a' b k := by
  funext o j
  by_cases h : o = 69
  · subst h; by_cases h4 : j = 4 <;> simp [up2, upd, lx, h4]
  · simp [up2, lx, h]
theorem lx_b (I : FI) (a : Nat) (b b' k : Int32) : up2 (lx I a b k) 69 5 b' = lx I a b' k := by
  funext o j
  by_cases h : o = 69
  · subst h; by_cases h4 : j = 5 <;> by_cases h5 : j = 4 <;> simp [up2, upd, lx, h4, h5] <;> omega
  · simp [up2, lx, h]
theorem lx_k (I : FI) (a : Nat) (b k k' : Int32) : up2 (lx I a b k) 69 6 k' = lx I a b k' := by
  funext o j
  by_cases h : o = 69
  · subst h; by_cases h4 : j = 6 <;> by_cases h5 : j = 4 <;> by_cases h6 : j = 5 <;> simp [up2, upd, lx, h4, h5, h6] <;> omega
  · simp [up2, lx, h]
/-- the text: bytes of the TAPE; z of them; the reader never goes beyond -/
def skp (t : Nat → Nat) (z : Nat) : Nat → Nat → Nat
  | 0, a => a
  | k + 1, a => if a < z ∧ t a = 32 then skp t z k (a + 1) else a
def sk (t : Nat → Nat) (z a : Nat) : Nat := skp t z (z - a) a
theorem sk_go {t : Nat → Nat} {z a : Nat} (h : a < z) (h2 : t a = 32) : sk t z a = sk t z (a + 1) := by
  unfold sk
  rw [show z - a = (z - (a + 1)) + 1 by omega]
  simp [skp, h, h2]
theorem sk_st {t : Nat → Nat} {z a : Nat} (h : ¬ (a < z ∧ t a = 32)) : sk t z a = a := by
  unfold sk
  cases h3 : z - a with
  | zero => rfl
  | succ k => simp [skp, h]
theorem sk_le {t : Nat → Nat} {z : Nat} : ∀ (f a : Nat), z - a ≤ f → a ≤ z → a ≤ sk t z a ∧ sk t z a ≤ z ∧ ¬ (sk t z a < z ∧ t (sk t z a) = 32) := by
  intro f
  induction f with
  | zero => intro a h h2; rw [sk_st (by omega)]; omega
  | succ f ih =>
    intro a h h2
    by_cases hc : a < z ∧ t a = 32
    · rw [sk_go hc.1 hc.2]
      have := ih (a + 1) (by omega) (by omega)
      omega
    · rw [sk_st hc]; exact ⟨Nat.le_refl _, h2, hc⟩
/-- the reference holds the text -/
def TxM (I : FI) (t : Nat → Nat) (z : Nat) : Prop := I 69 3 = nI z ∧ z ≤ 600 ∧ (∀ j, j < 600 → I 71 j = nI (t j)) ∧ ∀ j, t j < 256
theorem clamp_nI {a : Nat} (h : a < 2 ^ 31) : (nI a).toNatClampNeg = a := nI_clamp h
theorem c_X11_here {G : Gx} {d : Nat} {I : FI} {R : FR} {J : FJ} {Q : Po} (hRM : ∀ k, R 69 k = refM k) {a z : Nat} {b k : Int32} {t : Nat → Nat} (hT : TxM I t z) (ha : a ≤ z) (hq : Q (.inl (some (.int (if sk t z a < z then nI (t (sk t z a)) else 0)))) 103 (lx I (sk t z a) b k) R J) : Cc G mX11_here d 0 0 [rf G 69] 103 (lx I a b k) R J Q := by
  obtain ⟨hz, h6, ht, hb⟩ := hT
  have key : ∀ (f a : Nat), z - a ≤ f → a ≤ z → Q (.inl (some (.int (if sk t z a < z then nI (t (sk t z a)) else 0)))) 103 (lx I (sk t z a) b k) R J → V G mX11_here d 0 0 0 0 0 [(0, rf G 69)] [] 103 (lx I a b k) R J Q := by
    intro f
    induction f with
    | zero =>
      intro a hf ha hq
      have c_l : ¬ a < z := by omega
      rw [sk_st (fun h => c_l h.1), if_neg c_l] at hq
      refine V_aload_n 1 0 rfl _ rfl rfl dX11_here_0 rfl ?_
      refine V_getI 4 69 11 4 (nI a) rfl flX11_129 rfl rfl rfl (by decide) dX11_here_1 rfl ?_
      refine V_aload_n 5 0 rfl _ rfl rfl dX11_here_4 rfl ?_
      refine V_getI 8 69 11 3 (nI z) hz flX11_132 rfl rfl rfl (by decide) dX11_here_5 rfl ?_
      refine V_icmp_ge 38 11 rfl dX11_here_8 rfl (fun c8 => ?_) (fun c8 => absurd (nI_le (show z ≤ a by omega) (by omega)) c8)
      refine V_aload_n 39 0 rfl _ rfl rfl dX11_here_38 rfl ?_
      refine V_getI 42 69 11 4 (nI a) rfl flX11_129 rfl rfl rfl (by decide) dX11_here_39 rfl ?_
      refine V_aload_n 43 0 rfl _ rfl rfl dX11_here_42 rfl ?_
      refine V_getI 46 69 11 3 (nI z) hz flX11_132 rfl rfl rfl (by decide) dX11_here_43 rfl ?_
      refine V_icmp_ge 61 49 rfl dX11_here_46 rfl (fun c46 => ?_) (fun c46 => absurd (nI_le (show z ≤ a by omega) (by omega)) c46)
      refine V_iconst 62 (0) rfl dX11_here_61 rfl ?_
      refine V_ret_i rfl rfl (Nat.le_refl _) (fun h => absurd h (by decide)) (Nat.le_refl _) (hq) dX11_here_62
    | succ f ih =>
      intro a hf ha hq
      by_cases c_l : a < z
      · by_cases c_s : t a = 32
        · refine V_aload_n 1 0 rfl _ rfl rfl dX11_here_0 rfl ?_
          refine V_getI 4 69 11 4 (nI a) rfl flX11_129 rfl rfl rfl (by decide) dX11_here_1 rfl ?_
          refine V_aload_n 5 0 rfl _ rfl rfl dX11_here_4 rfl ?_
          refine V_getI 8 69 11 3 (nI z) hz flX11_132 rfl rfl rfl (by decide) dX11_here_5 rfl ?_
          refine V_icmp_ge 38 11 rfl dX11_here_8 rfl (fun c8 => absurd c8 (nI_ge c_l (by omega))) (fun c8 => ?_)
          refine V_aload_n 12 0 rfl _ rfl rfl dX11_here_11 rfl ?_
          refine V_getR 15 69 11 9 71 (hRM 9) flX11_20 rfl rfl rfl (by decide) dX11_here_12 rfl ?_
          refine V_aload_n 16 0 rfl _ rfl rfl dX11_here_15 rfl ?_
          refine V_getI 19 69 11 4 (nI a) rfl flX11_129 rfl rfl rfl (by decide) dX11_here_16 rfl ?_
          refine V_ialdN 20 71 600 a (nI (t a)) (ht a (by omega)) (by omega) (by decide) rfl (by decide) dX11_here_19 rfl ?_
          refine V_bipush 22 (32) rfl dX11_here_20 rfl ?_
          refine V_icmp_ne 38 25 rfl dX11_here_22 rfl (fun c22 => absurd (by rw [c_s]; rfl) c22) (fun c22 => ?_)
          refine V_aload_n 26 0 rfl _ rfl rfl dX11_here_25 rfl ?_
          refine V_dup 27 rfl dX11_here_26 rfl ?_
          refine V_getI 30 69 11 4 (nI a) rfl flX11_129 rfl rfl rfl (by decide) dX11_here_27 rfl ?_
          refine V_iconst 31 (1) rfl dX11_here_30 rfl ?_
          refine V_iadd 32 dX11_here_31 rfl ?_
          refine V_rw (nI_1 a) ?_
          refine V_putI 35 69 11 4 flX11_129 rfl rfl rfl (by decide) rfl dX11_here_32 rfl ?_
          refine V_goto 0 rfl dX11_here_35 ?_
          rw [lx_a]
          exact ih (a + 1) (by omega) (by omega) (by rw [← sk_go c_l c_s]; exact hq)
        · rw [sk_st (fun h => c_s h.2), if_pos c_l] at hq
          refine V_aload_n 1 0 rfl _ rfl rfl dX11_here_0 rfl ?_
          refine V_getI 4 69 11 4 (nI a) rfl flX11_129 rfl rfl rfl (by decide) dX11_here_1 rfl ?_
          refine V_aload_n 5 0 rfl _ rfl rfl dX11_here_4 rfl ?_
          refine V_getI 8 69 11 3 (nI z) hz flX11_132 rfl rfl rfl (by decide) dX11_here_5 rfl ?_
          refine V_icmp_ge 38 11 rfl dX11_here_8 rfl (fun c8 => absurd c8 (nI_ge c_l (by omega))) (fun c8 => ?_)
          refine V_aload_n 12 0 rfl _ rfl rfl dX11_here_11 rfl ?_
          refine V_getR 15 69 11 9 71 (hRM 9) flX11_20 rfl rfl rfl (by decide) dX11_here_12 rfl ?_
          refine V_aload_n 16 0 rfl _ rfl rfl dX11_here_15 rfl ?_
          refine V_getI 19 69 11 4 (nI a) rfl flX11_129 rfl rfl rfl (by decide) dX11_here_16 rfl ?_
          refine V_ialdN 20 71 600 a (nI (t a)) (ht a (by omega)) (by omega) (by decide) rfl (by decide) dX11_here_19 rfl ?_
          refine V_bipush 22 (32) rfl dX11_here_20 rfl ?_
          refine V_icmp_ne 38 25 rfl dX11_here_22 rfl (fun c22 => ?_) (fun c22 => absurd ((nI_eq (by have := hb a; omega) (by decide)).mp c22) c_s)
          refine V_aload_n 39 0 rfl _ rfl rfl dX11_here_38 rfl ?_
          refine V_getI 42 69 11 4 (nI a) rfl flX11_129 rfl rfl rfl (by decide) dX11_here_39 rfl ?_
          refine V_aload_n 43 0 rfl _ rfl rfl dX11_here_42 rfl ?_
          refine V_getI 46 69 11 3 (nI z) hz flX11_132 rfl rfl rfl (by decide) dX11_here_43 rfl ?_
          refine V_icmp_ge 61 49 rfl dX11_here_46 rfl (fun c46 => absurd c46 (nI_ge c_l (by omega))) (fun c46 => ?_)
          refine V_aload_n 50 0 rfl _ rfl rfl dX11_here_49 rfl ?_
          refine V_getR 53 69 11 9 71 (hRM 9) flX11_20 rfl rfl rfl (by decide) dX11_here_50 rfl ?_
          refine V_aload_n 54 0 rfl _ rfl rfl dX11_here_53 rfl ?_
          refine V_getI 57 69 11 4 (nI a) rfl flX11_129 rfl rfl rfl (by decide) dX11_here_54 rfl ?_
          refine V_ialdN 58 71 600 a (nI (t a)) (ht a (by omega)) (by omega) (by decide) rfl (by decide) dX11_here_57 rfl ?_
          refine V_goto 62 rfl dX11_here_58 ?_
          refine V_ret_i rfl rfl (Nat.le_refl _) (fun h => absurd h (by decide)) (Nat.le_refl _) (hq) dX11_here_62
      · rw [sk_st (fun h => c_l h.1), if_neg c_l] at hq
        refine V_aload_n 1 0 rfl _ rfl rfl dX11_here_0 rfl ?_
        refine V_getI 4 69 11 4 (nI a) rfl flX11_129 rfl rfl rfl (by decide) dX11_here_1 rfl ?_
        refine V_aload_n 5 0 rfl _ rfl rfl dX11_here_4 rfl ?_
        refine V_getI 8 69 11 3 (nI z) hz flX11_132 rfl rfl rfl (by decide) dX11_here_5 rfl ?_
        refine V_icmp_ge 38 11 rfl dX11_here_8 rfl (fun c8 => ?_) (fun c8 => absurd (nI_le (show z ≤ a by omega) (by omega)) c8)
        refine V_aload_n 39 0 rfl _ rfl rfl dX11_here_38 rfl ?_
        refine V_getI 42 69 11 4 (nI a) rfl flX11_129 rfl rfl rfl (by decide) dX11_here_39 rfl ?_
        refine V_aload_n 43 0 rfl _ rfl rfl dX11_here_42 rfl ?_
        refine V_getI 46 69 11 3 (nI z) hz flX11_132 rfl rfl rfl (by decide) dX11_here_43 rfl ?_
        refine V_icmp_ge 61 49 rfl dX11_here_46 rfl (fun c46 => ?_) (fun c46 => absurd (nI_le (show z ≤ a by omega) (by omega)) c46)
        refine V_iconst 62 (0) rfl dX11_here_61 rfl ?_
        refine V_ret_i rfl rfl (Nat.le_refl _) (fun h => absurd h (by decide)) (Nat.le_refl _) (hq) dX11_here_62
  exact key (z - a) a (Nat.le_refl _) ha hq
