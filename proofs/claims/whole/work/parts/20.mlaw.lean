/-! ===== the reference: its LAW; a sea; steps ===== -/
def mkN (k : Nat) : Nat := if k = 6 then 7 else if k = 7 then 8 else if k = 8 then 6 else k
theorem jn7 (a b : Int32) : jnF 7 a b = if a < b then a else b := by
  show (if b < a then b else a) = _
  by_cases h : a < b
  · rw [if_pos h, if_neg (Int32.lt_asymm h)]
  · rw [if_neg h]
    by_cases g : b < a
    · rw [if_pos g]
    · rw [if_neg g]; exact Int32.le_antisymm (Int32.not_lt.mp g) (Int32.not_lt.mp h)
theorem jn8 (a b : Int32) : jnF 8 a b = if a < b then b else a := rfl
set_option maxHeartbeats 4000000 in
theorem c_X11_both {G : Gx} {d : Nat} {I : FI} {R : FR} {J : FJ} {Q : Po} {k : Nat} {a b : Int32} (h2 : 2 ≤ k) (h8 : k ≤ 8) (hq : Q (.inl (some (.int (jnF (mkN k) a b)))) 103 I R J) : Cc G mX11_both d 0 0 [.int (nI k), .int a, .int b] 103 I R J Q := by
  show V _ _ _ _ _ _ _ _ [(0, .int (nI k)), (1, .int a), (2, .int b)] [] _ _ _ _ _
  rcases (show k = 2 ∨ k = 3 ∨ k = 4 ∨ k = 5 ∨ k = 6 ∨ k = 7 ∨ k = 8 by omega) with rfl | rfl | rfl | rfl | rfl | rfl | rfl
  · refine V_iload_n 1 0 rfl rfl dX11_both_0 rfl ?_
    refine V_iconst 2 (2) rfl dX11_both_1 rfl ?_
    refine V_icmp_ne 9 5 rfl dX11_both_2 rfl (fun c2 => absurd (by decide) c2) (fun c2 => ?_)
    refine V_iload_n 6 1 rfl rfl dX11_both_5 rfl ?_
    refine V_iload_n 7 2 rfl rfl dX11_both_6 rfl ?_
    refine V_iadd 8 dX11_both_7 rfl ?_
    refine V_ret_i rfl rfl (Nat.le_refl _) (fun h => absurd h (by decide)) (Nat.le_refl _) (hq) dX11_both_8
  · refine V_iload_n 1 0 rfl rfl dX11_both_0 rfl ?_
    refine V_iconst 2 (2) rfl dX11_both_1 rfl ?_
    refine V_icmp_ne 9 5 rfl dX11_both_2 rfl (fun c2 => ?_) (fun c2 => absurd c2 (by decide))
    refine V_iload_n 10 0 rfl rfl dX11_both_9 rfl ?_
    refine V_iconst 11 (3) rfl dX11_both_10 rfl ?_
    refine V_icmp_ne 18 14 rfl dX11_both_11 rfl (fun c11 => absurd (by decide) c11) (fun c11 => ?_)
    refine V_iload_n 15 1 rfl rfl dX11_both_14 rfl ?_
    refine V_iload_n 16 2 rfl rfl dX11_both_15 rfl ?_
    refine V_isub 17 dX11_both_16 rfl ?_
    refine V_ret_i rfl rfl (Nat.le_refl _) (fun h => absurd h (by decide)) (Nat.le_refl _) (hq) dX11_both_17
  · refine V_iload_n 1 0 rfl rfl dX11_both_0 rfl ?_
    refine V_iconst 2 (2) rfl dX11_both_1 rfl ?_
    refine V_icmp_ne 9 5 rfl dX11_both_2 rfl (fun c2 => ?_) (fun c2 => absurd c2 (by decide))
    refine V_iload_n 10 0 rfl rfl dX11_both_9 rfl ?_
    refine V_iconst 11 (3) rfl dX11_both_10 rfl ?_
    refine V_icmp_ne 18 14 rfl dX11_both_11 rfl (fun c11 => ?_) (fun c11 => absurd c11 (by decide))
    refine V_iload_n 19 0 rfl rfl dX11_both_18 rfl ?_
    refine V_iconst 20 (4) rfl dX11_both_19 rfl ?_
    refine V_icmp_ne 27 23 rfl dX11_both_20 rfl (fun c20 => absurd (by decide) c20) (fun c20 => ?_)
    refine V_iload_n 24 1 rfl rfl dX11_both_23 rfl ?_
    refine V_iload_n 25 2 rfl rfl dX11_both_24 rfl ?_
    refine V_imul 26 dX11_both_25 rfl ?_
    refine V_ret_i rfl rfl (Nat.le_refl _) (fun h => absurd h (by decide)) (Nat.le_refl _) (hq) dX11_both_26
  · refine V_iload_n 1 0 rfl rfl dX11_both_0 rfl ?_
    refine V_iconst 2 (2) rfl dX11_both_1 rfl ?_
    refine V_icmp_ne 9 5 rfl dX11_both_2 rfl (fun c2 => ?_) (fun c2 => absurd c2 (by decide))
    refine V_iload_n 10 0 rfl rfl dX11_both_9 rfl ?_
    refine V_iconst 11 (3) rfl dX11_both_10 rfl ?_
    refine V_icmp_ne 18 14 rfl dX11_both_11 rfl (fun c11 => ?_) (fun c11 => absurd c11 (by decide))
    refine V_iload_n 19 0 rfl rfl dX11_both_18 rfl ?_
    refine V_iconst 20 (4) rfl dX11_both_19 rfl ?_
    refine V_icmp_ne 27 23 rfl dX11_both_20 rfl (fun c20 => ?_) (fun c20 => absurd c20 (by decide))
    refine V_iload_n 28 0 rfl rfl dX11_both_27 rfl ?_
    refine V_iconst 29 (5) rfl dX11_both_28 rfl ?_
    refine V_icmp_eq 38 32 rfl dX11_both_29 rfl (fun c29 => ?_) (fun c29 => absurd (by decide) c29)
    refine V_iload_n 39 2 rfl rfl dX11_both_38 rfl ?_
    refine V_if_ne 46 42 rfl dX11_both_39 rfl (fun c39 => ?_) (fun c39 => ?_)
    · refine V_iload_n 47 0 rfl rfl dX11_both_46 rfl ?_
      refine V_iconst 48 (5) rfl dX11_both_47 rfl ?_
      refine V_icmp_ne 57 51 rfl dX11_both_48 rfl (fun c48 => absurd (by decide) c48) (fun c48 => ?_)
      refine V_iload_n 52 1 rfl rfl dX11_both_51 rfl ?_
      refine V_iload_n 53 2 rfl rfl dX11_both_52 rfl ?_
      refine V_idiv 54 c39 dX11_both_53 rfl ?_
      refine V_goto 60 rfl dX11_both_54 ?_
      refine V_ret_i rfl rfl (Nat.le_refl _) (fun h => absurd h (by decide)) (Nat.le_refl _) (by rw [show mkN 5 = 5 from rfl, jnF] at hq; first | (rw [if_pos c39] at hq; exact hq) | (rw [if_neg c39] at hq; exact hq)) dX11_both_60
    · refine V_iconst 43 (0) rfl dX11_both_42 rfl ?_
      refine V_goto 60 rfl dX11_both_43 ?_
      refine V_ret_i rfl rfl (Nat.le_refl _) (fun h => absurd h (by decide)) (Nat.le_refl _) (by rw [show mkN 5 = 5 from rfl, jnF] at hq; first | (rw [if_pos c39] at hq; exact hq) | (rw [if_neg c39] at hq; exact hq)) dX11_both_60
  · refine V_iload_n 1 0 rfl rfl dX11_both_0 rfl ?_
    refine V_iconst 2 (2) rfl dX11_both_1 rfl ?_
    refine V_icmp_ne 9 5 rfl dX11_both_2 rfl (fun c2 => ?_) (fun c2 => absurd c2 (by decide))
    refine V_iload_n 10 0 rfl rfl dX11_both_9 rfl ?_
    refine V_iconst 11 (3) rfl dX11_both_10 rfl ?_
    refine V_icmp_ne 18 14 rfl dX11_both_11 rfl (fun c11 => ?_) (fun c11 => absurd c11 (by decide))
    refine V_iload_n 19 0 rfl rfl dX11_both_18 rfl ?_
    refine V_iconst 20 (4) rfl dX11_both_19 rfl ?_
    refine V_icmp_ne 27 23 rfl dX11_both_20 rfl (fun c20 => ?_) (fun c20 => absurd c20 (by decide))
    refine V_iload_n 28 0 rfl rfl dX11_both_27 rfl ?_
    refine V_iconst 29 (5) rfl dX11_both_28 rfl ?_
    refine V_icmp_eq 38 32 rfl dX11_both_29 rfl (fun c29 => absurd c29 (by decide)) (fun c29 => ?_)
    refine V_iload_n 33 0 rfl rfl dX11_both_32 rfl ?_
    refine V_bipush 35 (8) rfl dX11_both_33 rfl ?_
    refine V_icmp_ne 61 38 rfl dX11_both_35 rfl (fun c35 => ?_) (fun c35 => absurd c35 (by decide))
    refine V_iload_n 62 1 rfl rfl dX11_both_61 rfl ?_
    refine V_iload_n 63 2 rfl rfl dX11_both_62 rfl ?_
    refine V_icmp_ge 70 66 rfl dX11_both_63 rfl (fun c63 => ?_) (fun c63 => ?_)
    · refine V_iconst 71 (0) rfl dX11_both_70 rfl ?_
      refine V_iload_n 72 0 rfl rfl dX11_both_71 rfl ?_
      refine V_bipush 74 (6) rfl dX11_both_72 rfl ?_
      refine V_icmp_ne 81 77 rfl dX11_both_74 rfl (fun c74 => absurd (by decide) c74) (fun c74 => ?_)
      refine V_iconst 78 (1) rfl dX11_both_77 rfl ?_
      refine V_goto 82 rfl dX11_both_78 ?_
      refine V_icmp_ne 89 85 rfl dX11_both_82 rfl (fun c82 => ?_) (fun c82 => absurd c82 (by decide))
      refine V_iload_n 90 2 rfl rfl dX11_both_89 rfl ?_
      refine V_ret_i rfl rfl (Nat.le_refl _) (fun h => absurd h (by decide)) (Nat.le_refl _) (by rw [show mkN 6 = 7 from rfl, jn7] at hq; first | (rw [if_neg (Int32.not_lt.mpr c63)] at hq; exact hq) | (rw [if_pos (Int32.not_le.mp c63)] at hq; exact hq)) dX11_both_90
    · refine V_iconst 67 (1) rfl dX11_both_66 rfl ?_
      refine V_goto 71 rfl dX11_both_67 ?_
      refine V_iload_n 72 0 rfl rfl dX11_both_71 rfl ?_
      refine V_bipush 74 (6) rfl dX11_both_72 rfl ?_
      refine V_icmp_ne 81 77 rfl dX11_both_74 rfl (fun c74 => absurd (by decide) c74) (fun c74 => ?_)
      refine V_iconst 78 (1) rfl dX11_both_77 rfl ?_
      refine V_goto 82 rfl dX11_both_78 ?_
      refine V_icmp_ne 89 85 rfl dX11_both_82 rfl (fun c82 => absurd c82 (by decide)) (fun c82 => ?_)
      refine V_iload_n 86 1 rfl rfl dX11_both_85 rfl ?_
      refine V_goto 90 rfl dX11_both_86 ?_
      refine V_ret_i rfl rfl (Nat.le_refl _) (fun h => absurd h (by decide)) (Nat.le_refl _) (by rw [show mkN 6 = 7 from rfl, jn7] at hq; first | (rw [if_neg (Int32.not_lt.mpr c63)] at hq; exact hq) | (rw [if_pos (Int32.not_le.mp c63)] at hq; exact hq)) dX11_both_90
  · refine V_iload_n 1 0 rfl rfl dX11_both_0 rfl ?_
    refine V_iconst 2 (2) rfl dX11_both_1 rfl ?_
    refine V_icmp_ne 9 5 rfl dX11_both_2 rfl (fun c2 => ?_) (fun c2 => absurd c2 (by decide))
    refine V_iload_n 10 0 rfl rfl dX11_both_9 rfl ?_
    refine V_iconst 11 (3) rfl dX11_both_10 rfl ?_
    refine V_icmp_ne 18 14 rfl dX11_both_11 rfl (fun c11 => ?_) (fun c11 => absurd c11 (by decide))
    refine V_iload_n 19 0 rfl rfl dX11_both_18 rfl ?_
    refine V_iconst 20 (4) rfl dX11_both_19 rfl ?_
    refine V_icmp_ne 27 23 rfl dX11_both_20 rfl (fun c20 => ?_) (fun c20 => absurd c20 (by decide))
    refine V_iload_n 28 0 rfl rfl dX11_both_27 rfl ?_
    refine V_iconst 29 (5) rfl dX11_both_28 rfl ?_
    refine V_icmp_eq 38 32 rfl dX11_both_29 rfl (fun c29 => absurd c29 (by decide)) (fun c29 => ?_)
    refine V_iload_n 33 0 rfl rfl dX11_both_32 rfl ?_
    refine V_bipush 35 (8) rfl dX11_both_33 rfl ?_
    refine V_icmp_ne 61 38 rfl dX11_both_35 rfl (fun c35 => ?_) (fun c35 => absurd c35 (by decide))
    refine V_iload_n 62 1 rfl rfl dX11_both_61 rfl ?_
    refine V_iload_n 63 2 rfl rfl dX11_both_62 rfl ?_
    refine V_icmp_ge 70 66 rfl dX11_both_63 rfl (fun c63 => ?_) (fun c63 => ?_)
    · refine V_iconst 71 (0) rfl dX11_both_70 rfl ?_
      refine V_iload_n 72 0 rfl rfl dX11_both_71 rfl ?_
      refine V_bipush 74 (6) rfl dX11_both_72 rfl ?_
      refine V_icmp_ne 81 77 rfl dX11_both_74 rfl (fun c74 => ?_) (fun c74 => absurd c74 (by decide))
      refine V_iconst 82 (0) rfl dX11_both_81 rfl ?_
      refine V_icmp_ne 89 85 rfl dX11_both_82 rfl (fun c82 => absurd c82 (by decide)) (fun c82 => ?_)
      refine V_iload_n 86 1 rfl rfl dX11_both_85 rfl ?_
      refine V_goto 90 rfl dX11_both_86 ?_
      refine V_ret_i rfl rfl (Nat.le_refl _) (fun h => absurd h (by decide)) (Nat.le_refl _) (by rw [show mkN 7 = 8 from rfl, jn8] at hq; first | (rw [if_neg (Int32.not_lt.mpr c63)] at hq; exact hq) | (rw [if_pos (Int32.not_le.mp c63)] at hq; exact hq)) dX11_both_90
    · refine V_iconst 67 (1) rfl dX11_both_66 rfl ?_
      refine V_goto 71 rfl dX11_both_67 ?_
      refine V_iload_n 72 0 rfl rfl dX11_both_71 rfl ?_
      refine V_bipush 74 (6) rfl dX11_both_72 rfl ?_
      refine V_icmp_ne 81 77 rfl dX11_both_74 rfl (fun c74 => ?_) (fun c74 => absurd c74 (by decide))
      refine V_iconst 82 (0) rfl dX11_both_81 rfl ?_
      refine V_icmp_ne 89 85 rfl dX11_both_82 rfl (fun c82 => ?_) (fun c82 => absurd c82 (by decide))
      refine V_iload_n 90 2 rfl rfl dX11_both_89 rfl ?_
      refine V_ret_i rfl rfl (Nat.le_refl _) (fun h => absurd h (by decide)) (Nat.le_refl _) (by rw [show mkN 7 = 8 from rfl, jn8] at hq; first | (rw [if_neg (Int32.not_lt.mpr c63)] at hq; exact hq) | (rw [if_pos (Int32.not_le.mp c63)] at hq; exact hq)) dX11_both_90
  · refine V_iload_n 1 0 rfl rfl dX11_both_0 rfl ?_
    refine V_iconst 2 (2) rfl dX11_both_1 rfl ?_
    refine V_icmp_ne 9 5 rfl dX11_both_2 rfl (fun c2 => ?_) (fun c2 => absurd c2 (by decide))
    refine V_iload_n 10 0 rfl rfl dX11_both_9 rfl ?_
    refine V_iconst 11 (3) rfl dX11_both_10 rfl ?_
    refine V_icmp_ne 18 14 rfl dX11_both_11 rfl (fun c11 => ?_) (fun c11 => absurd c11 (by decide))
    refine V_iload_n 19 0 rfl rfl dX11_both_18 rfl ?_
    refine V_iconst 20 (4) rfl dX11_both_19 rfl ?_
    refine V_icmp_ne 27 23 rfl dX11_both_20 rfl (fun c20 => ?_) (fun c20 => absurd c20 (by decide))
    refine V_iload_n 28 0 rfl rfl dX11_both_27 rfl ?_
    refine V_iconst 29 (5) rfl dX11_both_28 rfl ?_
    refine V_icmp_eq 38 32 rfl dX11_both_29 rfl (fun c29 => absurd c29 (by decide)) (fun c29 => ?_)
    refine V_iload_n 33 0 rfl rfl dX11_both_32 rfl ?_
    refine V_bipush 35 (8) rfl dX11_both_33 rfl ?_
    refine V_icmp_ne 61 38 rfl dX11_both_35 rfl (fun c35 => absurd (by decide) c35) (fun c35 => ?_)
    refine V_iload_n 39 2 rfl rfl dX11_both_38 rfl ?_
    refine V_if_ne 46 42 rfl dX11_both_39 rfl (fun c39 => ?_) (fun c39 => ?_)
    · refine V_iload_n 47 0 rfl rfl dX11_both_46 rfl ?_
      refine V_iconst 48 (5) rfl dX11_both_47 rfl ?_
      refine V_icmp_ne 57 51 rfl dX11_both_48 rfl (fun c48 => ?_) (fun c48 => absurd c48 (by decide))
      refine V_iload_n 58 1 rfl rfl dX11_both_57 rfl ?_
      refine V_iload_n 59 2 rfl rfl dX11_both_58 rfl ?_
      refine V_irem 60 c39 dX11_both_59 rfl ?_
      refine V_ret_i rfl rfl (Nat.le_refl _) (fun h => absurd h (by decide)) (Nat.le_refl _) (by rw [show mkN 8 = 6 from rfl, jnF] at hq; first | (rw [if_pos c39] at hq; exact hq) | (rw [if_neg c39] at hq; exact hq)) dX11_both_60
    · refine V_iconst 43 (0) rfl dX11_both_42 rfl ?_
      refine V_goto 60 rfl dX11_both_43 ?_
      refine V_ret_i rfl rfl (Nat.le_refl _) (fun h => absurd h (by decide)) (Nat.le_refl _) (by rw [show mkN 8 = 6 from rfl, jnF] at hq; first | (rw [if_pos c39] at hq; exact hq) | (rw [if_neg c39] at hq; exact hq)) dX11_both_60
def evS (cd od F S0 : DV) : Nat → DV × Nat
  | 0 => (S0, 0)
  | i + 1 => if cd i = 0 then (upd (evS cd od F S0 i).1 (evS cd od F S0 i).2 (od i), (evS cd od F S0 i).2 + 1)
    else if cd i = 1 then (upd (evS cd od F S0 i).1 (evS cd od F S0 i).2 (F (od i).toNatClampNeg), (evS cd od F S0 i).2 + 1)
    else (upd (evS cd od F S0 i).1 ((evS cd od F S0 i).2 - 2) (jnF (mkN (cd i).toNatClampNeg) ((evS cd od F S0 i).1 ((evS cd od F S0 i).2 - 2)) ((evS cd od F S0 i).1 ((evS cd od F S0 i).2 - 1))), (evS cd od F S0 i).2 - 1)
/-- how many values stand behind i codes -/
def dpF (cd : DV) : Nat → Nat
  | 0 => 0
  | i + 1 => if cd i = 0 ∨ cd i = 1 then dpF cd i + 1 else dpF cd i - 1
def PcOk (cd od : DV) (i : Nat) : Prop := cd i = 0 ∨ (cd i = 1 ∧ ∃ a, a < 8 ∧ od i = nI a) ∨ ∃ k, 2 ≤ k ∧ k ≤ 8 ∧ cd i = nI k ∧ 2 ≤ dpF cd i
theorem evS_dp {cd od F S0 : DV} : ∀ i, (evS cd od F S0 i).2 = dpF cd i := by
  intro i
  induction i with
  | zero => rfl
  | succ i ih =>
    rw [evS, dpF]
    by_cases h0 : cd i = 0
    · rw [if_pos h0, if_pos (Or.inl h0)]; exact congrArg (· + 1) ih
    · by_cases h1 : cd i = 1
      · rw [if_neg h0, if_pos h1, if_pos (Or.inr h1)]; exact congrArg (· + 1) ih
      · rw [if_neg h0, if_neg h1, if_neg (by simp [h0, h1])]; exact congrArg (· - 1) ih
theorem dpF_le (cd : DV) : ∀ i, dpF cd i ≤ i := by
  intro i
  induction i with
  | zero => exact Nat.le_refl _
  | succ i ih => rw [dpF]; split <;> omega
theorem dpF_pos {cd od : DV} {s : Nat} (h : ∀ i, i < s → PcOk cd od i) : ∀ i, i < s → 1 ≤ dpF cd (i + 1) := by
  intro i hi
  rw [dpF]
  rcases h i hi with h0 | ⟨h1, -⟩ | ⟨k, k2, k8, ek, h2⟩
  · rw [if_pos (Or.inl h0)]; omega
  · rw [if_pos (Or.inr h1)]; omega
  · have n0 : ¬ cd i = 0 := by rw [ek]; exact nI_ne0 (by omega) (by omega)
    have n1 : ¬ cd i = 1 := fun h => by rw [ek] at h; have := (nI_eq (a := k) (b := 1) (by omega) (by decide)).mp h; omega
    rw [if_neg (by simp [n0, n1])]; omega
/-- what stands above the place is of no matter -/
theorem evS_in {cd od F S S' : DV} : ∀ s, (∀ i, i < s → PcOk cd od i) → ∀ j, j < dpF cd s → (evS cd od F S s).1 j = (evS cd od F S' s).1 j := by
  intro s
  induction s with
  | zero => intro _ j hj; exact absurd hj (Nat.not_lt_zero j)
  | succ s ih =>
    intro h j hj
    have ih' := ih (fun i hi => h i (by omega))
    rw [evS, evS]
    rw [dpF] at hj
    rcases h s (by omega) with h0 | ⟨h1, -⟩ | ⟨k, k2, k8, ek, h2⟩
    · rw [if_pos (Or.inl h0)] at hj
      rw [if_pos h0, if_pos h0]
      show upd _ _ _ j = upd _ _ _ j
      rw [evS_dp, evS_dp]
      by_cases e : j = dpF cd s
      · subst e; rw [upd_s, upd_s]
      · rw [upd_n e, upd_n e]; exact ih' j (by omega)
    · have n0 : ¬ cd s = 0 := by rw [h1]; decide
      rw [if_pos (Or.inr h1)] at hj
      rw [if_neg n0, if_neg n0, if_pos h1, if_pos h1]
      show upd _ _ _ j = upd _ _ _ j
      rw [evS_dp, evS_dp]
      by_cases e : j = dpF cd s
      · subst e; rw [upd_s, upd_s]
      · rw [upd_n e, upd_n e]; exact ih' j (by omega)
    · have n0 : ¬ cd s = 0 := by rw [ek]; exact nI_ne0 (by omega) (by omega)
      have n1 : ¬ cd s = 1 := fun h => by rw [ek] at h; have := (nI_eq (a := k) (b := 1) (by omega) (by decide)).mp h; omega
      rw [if_neg (by simp [n0, n1])] at hj
      rw [if_neg n0, if_neg n0, if_neg n1, if_neg n1]
      show upd _ _ _ j = upd _ _ _ j
      rw [evS_dp, evS_dp, ih' (dpF cd s - 2) (by omega), ih' (dpF cd s - 1) (by omega)]
      by_cases e : j = dpF cd s - 2
      · subst e; rw [upd_s, upd_s]
      · rw [upd_n e, upd_n e]; exact ih' j (by omega)
theorem evS_F {cd od F F' S : DV} (hF : ∀ a, a < 8 → F a = F' a) : ∀ s, (∀ i, i < s → PcOk cd od i) → evS cd od F S s = evS cd od F' S s := by
  intro s
  induction s with
  | zero => intro _; rfl
  | succ s ih =>
    intro h
    rw [evS, evS, ih (fun i hi => h i (by omega))]
    rcases h s (by omega) with h0 | ⟨h1, a, ha, ea⟩ | ⟨k, k2, k8, ek, h2⟩
    · rw [if_pos h0, if_pos h0]
    · rw [ea, nI_clamp (by omega), hF a ha]
    · have n0 : ¬ cd s = 0 := by rw [ek]; exact nI_ne0 (by omega) (by omega)
      have n1 : ¬ cd s = 1 := fun h => by rw [ek] at h; have := (nI_eq (a := k) (b := 1) (by omega) (by decide)).mp h; omega
      rw [if_neg n0, if_neg n0, if_neg n1, if_neg n1]
def LawM (I : FI) (f : DV → Int32) : Prop := ∃ s, s ≤ 150 ∧ I 69 30 = nI s ∧ (∀ i, i < s → PcOk (I 82) (I 83) i) ∧ ∀ F, f F = clF (if s = 0 then 3 * F 0 - 4 * F 1 else (evS (I 82) (I 83) F (fun _ => 0) s).1 0)
theorem LawM.fr {I I' : FI} {f : DV → Int32} (h : LawM I f) (h1 : I' 69 30 = I 69 30) (h2 : I' 82 = I 82) (h3 : I' 83 = I 83) : LawM I' f := by
  unfold LawM at *; rw [h1, h2, h3]; exact h
theorem LawM.frS {I I' : FI} {f : DV → Int32} (h : LawM I f) (hf : FrS I I') : LawM I' f := h.fr (by rw [hf 69 (by decide) (by decide) (by decide) (by decide)]) (hf 82 (by decide) (by decide) (by decide) (by decide)) (hf 83 (by decide) (by decide) (by decide) (by decide))
theorem LawM.ext {I : FI} {f : DV → Int32} (h : LawM I f) : fX f := by
  obtain ⟨s, -, -, hp, hf⟩ := h
  intro F F' hF
  rw [hf, hf, evS_F hF s hp, hF 0 (by decide), hF 1 (by decide)]
set_option maxHeartbeats 4000000 in
theorem c_X11_valueNow {G : Gx} {d : Nat} {I : FI} {R : FR} {J : FJ} {Q : Po} (hRM : ∀ k, R 69 k = refM k) {s : Nat} (h150 : s ≤ 150) (hs : I 69 30 = nI s) (hp : ∀ i, i < s → PcOk (I 82) (I 83) i) (hq : Q (.inl (some (.int ((evS (I 82) (I 83) (I 85) (I 84) s).1 0)))) 103 (upA I 84 (evS (I 82) (I 83) (I 85) (I 84) s).1) R J) : Cc G mX11_valueNow (d + 1) 0 0 [rf G 69] 103 I R J Q := by
  have L : ∀ i, i ≤ s → V G mX11_valueNow (d + 1) 0 0 0 0 4 [(2, .int (nI i)), (1, .int (nI (dpF (I 82) i))), (0, rf G 69)] [] 103 (upA I 84 (evS (I 82) (I 83) (I 85) (I 84) i).1) R J Q := by
    refine loopd s ?_ (fun i hi ih => ?_)
    · refine V_iload_n 5 0 rfl rfl dX11_valueNow_4 rfl ?_
      refine V_aload_n 6 2 rfl _ rfl rfl dX11_valueNow_5 rfl ?_
      refine V_getI 9 69 11 30 (nI s) hs flX11_188 rfl rfl rfl (by decide) dX11_valueNow_6 rfl ?_
      refine V_icmp_ge 95 12 rfl dX11_valueNow_9 rfl (fun c9 => ?_) (fun c9 => absurd (Int32.le_refl _) c9)
      refine V_aload_n 96 2 rfl _ rfl rfl dX11_valueNow_95 rfl ?_
      refine V_getR 99 69 11 28 84 (hRM 28) flX11_59 rfl rfl rfl (by decide) dX11_valueNow_96 rfl ?_
      refine V_iconst 100 (0) rfl dX11_valueNow_99 rfl ?_
      refine V_ialdN 101 84 150 0 ((evS (I 82) (I 83) (I 85) (I 84) s).1 0) rfl (by decide) (by decide) rfl (by decide) dX11_valueNow_100 rfl ?_
      refine V_ret_i rfl rfl (Nat.le_refl _) (fun h => absurd h (by decide)) (Nat.le_refl _) (hq) dX11_valueNow_101
    · have hdp := dpF_le (I 82) i
      have hev := evS_dp (cd := I 82) (od := I 83) (F := I 85) (S0 := I 84) i
      rcases hp i hi with k0 | ⟨k1, a, ha, ea⟩ | ⟨k, k2, k8, ek, hd2⟩
      · refine V_iload_n 5 0 rfl rfl dX11_valueNow_4 rfl ?_
        refine V_aload_n 6 2 rfl _ rfl rfl dX11_valueNow_5 rfl ?_
        refine V_getI 9 69 11 30 (nI s) hs flX11_188 rfl rfl rfl (by decide) dX11_valueNow_6 rfl ?_
        refine V_icmp_ge 95 12 rfl dX11_valueNow_9 rfl (fun c9 => absurd c9 (nI_ge hi (by omega))) (fun c9 => ?_)
        refine V_aload_n 13 2 rfl _ rfl rfl dX11_valueNow_12 rfl ?_
        refine V_getR 16 69 11 26 82 (hRM 26) flX11_53 rfl rfl rfl (by decide) dX11_valueNow_13 rfl ?_
        refine V_iload_n 17 0 rfl rfl dX11_valueNow_16 rfl ?_
        refine V_ialdN 18 82 150 i 0 k0 (by omega) (by decide) rfl (by decide) dX11_valueNow_17 rfl ?_
        refine V_istore_n 19 [(3, .int 0), (2, .int (nI i)), (1, .int (nI (dpF (I 82) i))), (0, rf G 69)] (by decide) rfl rfl dX11_valueNow_18 rfl ?_
        refine V_iload_n 20 0 rfl rfl dX11_valueNow_19 rfl ?_
        refine V_iconst 21 (1) rfl dX11_valueNow_20 rfl ?_
        refine V_icmp_gt 60 24 rfl dX11_valueNow_21 rfl (fun c21 => absurd c21 (by decide)) (fun c21 => ?_)
        refine V_aload_n 25 3 rfl _ rfl rfl dX11_valueNow_24 rfl ?_
        refine V_getR 28 69 11 28 84 (hRM 28) flX11_59 rfl rfl rfl (by decide) dX11_valueNow_25 rfl ?_
        refine V_iload_n 29 2 rfl rfl dX11_valueNow_28 rfl ?_
        refine V_iload_n 30 0 rfl rfl dX11_valueNow_29 rfl ?_
        refine V_if_ne 42 33 rfl dX11_valueNow_30 rfl (fun c30 => absurd c30 (by decide)) (fun c30 => ?_)
        refine V_aload_n 34 3 rfl _ rfl rfl dX11_valueNow_33 rfl ?_
        refine V_getR 37 69 11 27 83 (hRM 27) flX11_56 rfl rfl rfl (by decide) dX11_valueNow_34 rfl ?_
        refine V_iload_n 38 1 rfl rfl dX11_valueNow_37 rfl ?_
        refine V_ialdN 39 83 150 i (I 83 i) rfl (by omega) (by decide) rfl (by decide) dX11_valueNow_38 rfl ?_
        refine V_goto 53 rfl dX11_valueNow_39 ?_
        refine V_iastN 54 84 150 (dpF (I 82) i) (by omega) (by decide) rfl (by decide) dX11_valueNow_53 rfl ?_
        refine V_iinc 57 2 rfl (nI (dpF (I 82) i + 1)) [(1, .int (nI (dpF (I 82) i + 1))), (3, .int 0), (2, .int (nI i)), (0, rf G 69)] (nI_1 _) (by decide) rfl dX11_valueNow_54 rfl ?_
        refine V_goto 89 rfl dX11_valueNow_57 ?_
        refine V_iinc 92 2 rfl (nI (i + 1)) [(2, .int (nI (i + 1))), (1, .int (nI (dpF (I 82) i + 1))), (3, .int 0), (0, rf G 69)] (nI_1 _) (by decide) rfl dX11_valueNow_89 rfl ?_
        refine V_goto 4 rfl dX11_valueNow_92 ?_
        rw [upA_u]
        have e8 : evS (I 82) (I 83) (I 85) (I 84) (i + 1) = (upd (evS (I 82) (I 83) (I 85) (I 84) i).1 (dpF (I 82) i) (I 83 i), dpF (I 82) i + 1) := by rw [evS, if_pos k0, hev]
        have e9 : dpF (I 82) (i + 1) = dpF (I 82) i + 1 := by rw [dpF, if_pos (by first | exact Or.inl k0 | exact Or.inr k1)]
        rw [e8, e9] at ih
        exact V_lv [0, 1, 3] rfl ih
      · refine V_iload_n 5 0 rfl rfl dX11_valueNow_4 rfl ?_
        refine V_aload_n 6 2 rfl _ rfl rfl dX11_valueNow_5 rfl ?_
        refine V_getI 9 69 11 30 (nI s) hs flX11_188 rfl rfl rfl (by decide) dX11_valueNow_6 rfl ?_
        refine V_icmp_ge 95 12 rfl dX11_valueNow_9 rfl (fun c9 => absurd c9 (nI_ge hi (by omega))) (fun c9 => ?_)
        refine V_aload_n 13 2 rfl _ rfl rfl dX11_valueNow_12 rfl ?_
        refine V_getR 16 69 11 26 82 (hRM 26) flX11_53 rfl rfl rfl (by decide) dX11_valueNow_13 rfl ?_
        refine V_iload_n 17 0 rfl rfl dX11_valueNow_16 rfl ?_
        refine V_ialdN 18 82 150 i 1 k1 (by omega) (by decide) rfl (by decide) dX11_valueNow_17 rfl ?_
        refine V_istore_n 19 [(3, .int 1), (2, .int (nI i)), (1, .int (nI (dpF (I 82) i))), (0, rf G 69)] (by decide) rfl rfl dX11_valueNow_18 rfl ?_
        refine V_iload_n 20 0 rfl rfl dX11_valueNow_19 rfl ?_
        refine V_iconst 21 (1) rfl dX11_valueNow_20 rfl ?_
        refine V_icmp_gt 60 24 rfl dX11_valueNow_21 rfl (fun c21 => absurd c21 (by decide)) (fun c21 => ?_)
        refine V_aload_n 25 3 rfl _ rfl rfl dX11_valueNow_24 rfl ?_
        refine V_getR 28 69 11 28 84 (hRM 28) flX11_59 rfl rfl rfl (by decide) dX11_valueNow_25 rfl ?_
        refine V_iload_n 29 2 rfl rfl dX11_valueNow_28 rfl ?_
        refine V_iload_n 30 0 rfl rfl dX11_valueNow_29 rfl ?_
        refine V_if_ne 42 33 rfl dX11_valueNow_30 rfl (fun c30 => ?_) (fun c30 => absurd c30 (by decide))
        refine V_aload_n 43 3 rfl _ rfl rfl dX11_valueNow_42 rfl ?_
        refine V_getR 46 69 11 31 85 (hRM 31) flX11_62 rfl rfl rfl (by decide) dX11_valueNow_43 rfl ?_
        refine V_aload_n 47 3 rfl _ rfl rfl dX11_valueNow_46 rfl ?_
        refine V_getR 50 69 11 27 83 (hRM 27) flX11_56 rfl rfl rfl (by decide) dX11_valueNow_47 rfl ?_
        refine V_iload_n 51 1 rfl rfl dX11_valueNow_50 rfl ?_
        refine V_ialdN 52 83 150 i (nI a) ea (by omega) (by decide) rfl (by decide) dX11_valueNow_51 rfl ?_
        refine V_ialdN 53 85 8 a (I 85 a) rfl (by omega) (by decide) rfl (by decide) dX11_valueNow_52 rfl ?_
        refine V_iastN 54 84 150 (dpF (I 82) i) (by omega) (by decide) rfl (by decide) dX11_valueNow_53 rfl ?_
        refine V_iinc 57 2 rfl (nI (dpF (I 82) i + 1)) [(1, .int (nI (dpF (I 82) i + 1))), (3, .int 1), (2, .int (nI i)), (0, rf G 69)] (nI_1 _) (by decide) rfl dX11_valueNow_54 rfl ?_
        refine V_goto 89 rfl dX11_valueNow_57 ?_
        refine V_iinc 92 2 rfl (nI (i + 1)) [(2, .int (nI (i + 1))), (1, .int (nI (dpF (I 82) i + 1))), (3, .int 1), (0, rf G 69)] (nI_1 _) (by decide) rfl dX11_valueNow_89 rfl ?_
        refine V_goto 4 rfl dX11_valueNow_92 ?_
        rw [upA_u]
        have e8 : evS (I 82) (I 83) (I 85) (I 84) (i + 1) = (upd (evS (I 82) (I 83) (I 85) (I 84) i).1 (dpF (I 82) i) (I 85 a), dpF (I 82) i + 1) := by rw [evS, if_neg (by rw [k1]; decide), if_pos k1, ea, nI_clamp (by omega), hev]
        have e9 : dpF (I 82) (i + 1) = dpF (I 82) i + 1 := by rw [dpF, if_pos (by first | exact Or.inl k0 | exact Or.inr k1)]
        rw [e8, e9] at ih
        exact V_lv [0, 1, 3] rfl ih
      · have n0 : ¬ I 82 i = 0 := by rw [ek]; exact nI_ne0 (by omega) (by omega)
        have n1 : ¬ I 82 i = 1 := fun h => by rw [ek] at h; have := (nI_eq (a := k) (b := 1) (by omega) (by decide)).mp h; omega
        have em : nI (dpF (I 82) i) + Int32.ofInt (-1) = nI (dpF (I 82) i - 1) := by
          have := pk_m1 (dpF (I 82) i - 1); rwa [show dpF (I 82) i - 1 + 1 = dpF (I 82) i by omega] at this
        have em2 : nI (dpF (I 82) i - 1) - 1 = nI (dpF (I 82) i - 2) := by rw [show (1 : Int32) = nI 1 from rfl, pk_sub (by omega)]; congr 1
        refine V_iload_n 5 0 rfl rfl dX11_valueNow_4 rfl ?_
        refine V_aload_n 6 2 rfl _ rfl rfl dX11_valueNow_5 rfl ?_
        refine V_getI 9 69 11 30 (nI s) hs flX11_188 rfl rfl rfl (by decide) dX11_valueNow_6 rfl ?_
        refine V_icmp_ge 95 12 rfl dX11_valueNow_9 rfl (fun c9 => absurd c9 (nI_ge hi (by omega))) (fun c9 => ?_)
        refine V_aload_n 13 2 rfl _ rfl rfl dX11_valueNow_12 rfl ?_
        refine V_getR 16 69 11 26 82 (hRM 26) flX11_53 rfl rfl rfl (by decide) dX11_valueNow_13 rfl ?_
        refine V_iload_n 17 0 rfl rfl dX11_valueNow_16 rfl ?_
        refine V_ialdN 18 82 150 i (nI k) ek (by omega) (by decide) rfl (by decide) dX11_valueNow_17 rfl ?_
        refine V_istore_n 19 [(3, .int (nI k)), (2, .int (nI i)), (1, .int (nI (dpF (I 82) i))), (0, rf G 69)] (by decide) rfl rfl dX11_valueNow_18 rfl ?_
        refine V_iload_n 20 0 rfl rfl dX11_valueNow_19 rfl ?_
        refine V_iconst 21 (1) rfl dX11_valueNow_20 rfl ?_
        refine V_icmp_gt 60 24 rfl dX11_valueNow_21 rfl (fun c21 => ?_) (fun c21 => absurd (show (1 : Int32) < nI k from nI_lt (a := 1) (by omega) (by omega)) c21)
        refine V_iinc 63 2 rfl (nI (dpF (I 82) i - 1)) [(1, .int (nI (dpF (I 82) i - 1))), (3, .int (nI k)), (2, .int (nI i)), (0, rf G 69)] em (by decide) rfl dX11_valueNow_60 rfl ?_
        refine V_aload_n 64 3 rfl _ rfl rfl dX11_valueNow_63 rfl ?_
        refine V_getR 67 69 11 28 84 (hRM 28) flX11_59 rfl rfl rfl (by decide) dX11_valueNow_64 rfl ?_
        refine V_iload_n 68 0 rfl rfl dX11_valueNow_67 rfl ?_
        refine V_iconst 69 (1) rfl dX11_valueNow_68 rfl ?_
        refine V_isub 70 dX11_valueNow_69 rfl ?_
        refine V_rw (em2) ?_
        refine V_iload_n 71 1 rfl rfl dX11_valueNow_70 rfl ?_
        refine V_aload_n 72 3 rfl _ rfl rfl dX11_valueNow_71 rfl ?_
        refine V_getR 75 69 11 28 84 (hRM 28) flX11_59 rfl rfl rfl (by decide) dX11_valueNow_72 rfl ?_
        refine V_iload_n 76 0 rfl rfl dX11_valueNow_75 rfl ?_
        refine V_iconst 77 (1) rfl dX11_valueNow_76 rfl ?_
        refine V_isub 78 dX11_valueNow_77 rfl ?_
        refine V_rw (em2) ?_
        refine V_ialdN 79 84 150 (dpF (I 82) i - 2) ((evS (I 82) (I 83) (I 85) (I 84) i).1 (dpF (I 82) i - 2)) rfl (by omega) (by decide) rfl (by decide) dX11_valueNow_78 rfl ?_
        refine V_aload_n 80 3 rfl _ rfl rfl dX11_valueNow_79 rfl ?_
        refine V_getR 83 69 11 28 84 (hRM 28) flX11_59 rfl rfl rfl (by decide) dX11_valueNow_80 rfl ?_
        refine V_iload_n 84 0 rfl rfl dX11_valueNow_83 rfl ?_
        refine V_ialdN 85 84 150 (dpF (I 82) i - 1) ((evS (I 82) (I 83) (I 85) (I 84) i).1 (dpF (I 82) i - 1)) rfl (by omega) (by decide) rfl (by decide) dX11_valueNow_84 rfl ?_
        refine V_callS (K' := 0) (S' := 0) 88 3 [.int (nI k), .int ((evS (I 82) (I 83) (I 85) (I 84) i).1 (dpF (I 82) i - 2)), .int ((evS (I 82) (I 83) (I 85) (I 84) i).1 (dpF (I 82) i - 1))] mkX11_both lkX11_292 rfl (Nat.le_of_ble_eq_true rfl) (Nat.le_of_ble_eq_true rfl) (Nat.le_of_ble_eq_true rfl) (Nat.le_of_ble_eq_true rfl) rfl rfl dX11_valueNow_85 rfl (c_X11_both k2 k8 ?_)
        refine Kq_i (k' := 0) (sl' := 0) rfl rfl ?_
        refine V_iastN 89 84 150 (dpF (I 82) i - 2) (by omega) (by decide) rfl (by decide) dX11_valueNow_88 rfl ?_
        refine V_iinc 92 2 rfl (nI (i + 1)) [(2, .int (nI (i + 1))), (1, .int (nI (dpF (I 82) i - 1))), (3, .int (nI k)), (0, rf G 69)] (nI_1 _) (by decide) rfl dX11_valueNow_89 rfl ?_
        refine V_goto 4 rfl dX11_valueNow_92 ?_
        rw [upA_u]
        have e8 : evS (I 82) (I 83) (I 85) (I 84) (i + 1) = (upd (evS (I 82) (I 83) (I 85) (I 84) i).1 (dpF (I 82) i - 2) (jnF (mkN k) ((evS (I 82) (I 83) (I 85) (I 84) i).1 (dpF (I 82) i - 2)) ((evS (I 82) (I 83) (I 85) (I 84) i).1 (dpF (I 82) i - 1))), dpF (I 82) i - 1) := by rw [evS, if_neg n0, if_neg n1, hev, ek, nI_clamp (by omega)]
        have e9 : dpF (I 82) (i + 1) = dpF (I 82) i - 1 := by rw [dpF, if_neg (by simp [n0, n1])]
        rw [e8, e9] at ih
        exact V_lv [0, 1, 3] rfl ih
  show V _ _ _ _ _ _ _ _ [(0, rf G 69)] [] _ _ _ _ _
  have e0 : I = upA I 84 (evS (I 82) (I 83) (I 85) (I 84) 0).1 := by funext a; by_cases h : a = 84 <;> simp [upA, evS, h]
  refine V_iconst 1 (0) rfl dX11_valueNow_0 rfl ?_
  refine V_istore_n 2 [(1, .int 0), (0, rf G 69)] (by decide) rfl rfl dX11_valueNow_1 rfl ?_
  refine V_iconst 3 (0) rfl dX11_valueNow_2 rfl ?_
  refine V_istore_n 4 [(2, .int 0), (1, .int 0), (0, rf G 69)] (by decide) rfl rfl dX11_valueNow_3 rfl ?_
  refine V_rwI e0 ?_
  exact V_lv [0, 1, 2] rfl (L 0 (Nat.zero_le _))
theorem clF_lo {v : Int32} (h : v < 0) : clF v = 0 := by
  unfold clF
  have h1 : v < 99 := Int32.lt_trans h (by decide)
  rw [if_pos h1, if_neg (fun q => absurd h (Int32.lt_asymm q))]
theorem clF_hi {v : Int32} (h : 99 < v) : clF v = 99 := by
  unfold clF
  rw [if_neg (Int32.lt_asymm h)]; rfl
theorem clF_in {v : Int32} (h0 : 0 ≤ v) (h : v ≤ 99) : clF v = v := by
  unfold clF
  by_cases c : v < 99
  · rw [if_pos c]
    by_cases e : 0 < v
    · rw [if_pos e]
    · rw [if_neg e]; exact Int32.le_antisymm h0 (Int32.not_lt.mp e)
  · rw [if_neg c]; exact (if_pos (by decide)).trans (Int32.le_antisymm (Int32.not_lt.mp c) h)
set_option maxHeartbeats 4000000 in
theorem c_X11_seaNow {G : Gx} {d : Nat} {I : FI} {R : FR} {J : FJ} {Q : Po} (hRM : ∀ k, R 69 k = refM k) {f : DV → Int32} (hL : LawM I f) (hq : ∀ I', (∀ a, a ≠ 84 → I' a = I a) → Q (.inl (some (.int (f (I 85))))) 103 I' R J) : Cc G mX11_seaNow (d + 1 + 1) 0 0 [rf G 69] 103 I R J Q := by
  obtain ⟨s, h150, hs, hp, hf⟩ := hL
  have tail : ∀ (v : Int32) (I1 : FI) (w : Int32), clF v = f (I 85) → (∀ a, a ≠ 84 → I1 a = I a) → V G mX11_seaNow (d + 1 + 1) 0 0 0 0 31 [(0, rf G 69)] [.int v] 103 I1 R J Q := by
    intro v I1 w hv h1
    have hq1 := hq I1 h1
    rw [← hv] at hq1
    refine V_istore_n 32 [(1, .int v), (0, rf G 69)] (by decide) rfl rfl dX11_seaNow_31 rfl ?_
    refine V_iload_n 33 0 rfl rfl dX11_seaNow_32 rfl ?_
    refine V_if_ge 40 36 rfl dX11_seaNow_33 rfl (fun c33 => ?_) (fun c33 => ?_)
    · refine V_iload_n 41 0 rfl rfl dX11_seaNow_40 rfl ?_
      refine V_bipush 43 (99) rfl dX11_seaNow_41 rfl ?_
      refine V_icmp_le 51 46 rfl dX11_seaNow_43 rfl (fun c43 => ?_) (fun c43 => ?_)
      · refine V_iload_n 52 0 rfl rfl dX11_seaNow_51 rfl ?_
        refine V_ret_i rfl rfl (Nat.le_refl _) (fun h => absurd h (by decide)) (Nat.le_refl _) (by rw [clF_in c33 c43] at hq1; exact hq1) dX11_seaNow_52
      · refine V_bipush 48 (99) rfl dX11_seaNow_46 rfl ?_
        refine V_goto 52 rfl dX11_seaNow_48 ?_
        refine V_ret_i rfl rfl (Nat.le_refl _) (fun h => absurd h (by decide)) (Nat.le_refl _) (by rw [clF_hi (Int32.not_le.mp c43)] at hq1; exact hq1) dX11_seaNow_52
    · refine V_iconst 37 (0) rfl dX11_seaNow_36 rfl ?_
      refine V_goto 52 rfl dX11_seaNow_37 ?_
      refine V_ret_i rfl rfl (Nat.le_refl _) (fun h => absurd h (by decide)) (Nat.le_refl _) (by rw [clF_lo (Int32.not_le.mp c33)] at hq1; exact hq1) dX11_seaNow_52
  show V _ _ _ _ _ _ _ _ [(0, rf G 69)] [] _ _ _ _ _
  by_cases h0 : s = 0
  · subst h0
    refine V_aload_n 1 0 rfl _ rfl rfl dX11_seaNow_0 rfl ?_
    refine V_getI 4 69 11 30 0 hs flX11_188 rfl rfl rfl (by decide) dX11_seaNow_1 rfl ?_
    refine V_if_ne 27 7 rfl dX11_seaNow_4 rfl (fun c4 => absurd c4 (by decide)) (fun c4 => ?_)
    refine V_iconst 8 (3) rfl dX11_seaNow_7 rfl ?_
    refine V_aload_n 9 0 rfl _ rfl rfl dX11_seaNow_8 rfl ?_
    refine V_getR 12 69 11 31 85 (hRM 31) flX11_62 rfl rfl rfl (by decide) dX11_seaNow_9 rfl ?_
    refine V_iconst 13 (0) rfl dX11_seaNow_12 rfl ?_
    refine V_ialdN 14 85 8 0 (I 85 0) rfl (by decide) (by decide) rfl (by decide) dX11_seaNow_13 rfl ?_
    refine V_imul 15 dX11_seaNow_14 rfl ?_
    refine V_iconst 16 (4) rfl dX11_seaNow_15 rfl ?_
    refine V_aload_n 17 0 rfl _ rfl rfl dX11_seaNow_16 rfl ?_
    refine V_getR 20 69 11 31 85 (hRM 31) flX11_62 rfl rfl rfl (by decide) dX11_seaNow_17 rfl ?_
    refine V_iconst 21 (1) rfl dX11_seaNow_20 rfl ?_
    refine V_ialdN 22 85 8 1 (I 85 1) rfl (by decide) (by decide) rfl (by decide) dX11_seaNow_21 rfl ?_
    refine V_imul 23 dX11_seaNow_22 rfl ?_
    refine V_isub 24 dX11_seaNow_23 rfl ?_
    refine V_goto 31 rfl dX11_seaNow_24 ?_
    exact tail _ I 0 (by rw [hf, if_pos rfl]) (fun _ _ => rfl)
  · refine V_aload_n 1 0 rfl _ rfl rfl dX11_seaNow_0 rfl ?_
    refine V_getI 4 69 11 30 (nI s) hs flX11_188 rfl rfl rfl (by decide) dX11_seaNow_1 rfl ?_
    refine V_if_ne 27 7 rfl dX11_seaNow_4 rfl (fun c4 => ?_) (fun c4 => absurd c4 (nI_ne0 (by omega) (by omega)))
    refine V_aload_n 28 0 rfl _ rfl rfl dX11_seaNow_27 rfl ?_
    refine V_callV (K' := 0) (S' := 0) 31 69 11 0 [] mkX11_valueNow lkX11_296 (by decide) rfl rfl (by decide) rfl (Nat.le_of_ble_eq_true rfl) (Nat.le_of_ble_eq_true rfl) (Nat.le_of_ble_eq_true rfl) (Nat.le_of_ble_eq_true rfl) rfl rfl dX11_seaNow_28 rfl (c_X11_valueNow hRM h150 hs hp ?_)
    refine Kq_i (k' := 0) (sl' := 0) rfl rfl ?_
    exact tail _ _ 0 (by rw [hf, if_neg h0, evS_in (S := I 84) (S' := fun _ => 0) s hp 0 (by have := dpF_pos hp (s - 1) (by omega); rw [show s - 1 + 1 = s by omega] at this; exact this)]) (fun a ha => by simp [upA, ha])
set_option maxHeartbeats 4000000 in
theorem c_X11_seaOf {G : Gx} {d : Nat} {I : FI} {R : FR} {J : FJ} {Q : Po} (hRM : ∀ k, R 69 k = refM k) {x0 x1 x2 x3 x4 x5 x6 x7 : Int32} {f : DV → Int32} (hL : LawM I f) (hq : ∀ I', (∀ a, a ≠ 84 → a ≠ 85 → I' a = I a) → Q (.inl (some (.int (f (f8 x0 x1 x2 x3 x4 x5 x6 x7))))) 103 I' R J) : Cc G mX11_seaOf (d + 1 + 1 + 1) 0 0 [rf G 69, .int x0, .int x1, .int x2, .int x3, .int x4, .int x5, .int x6, .int x7] 103 I R J Q := by
  show V _ _ _ _ _ _ _ _ [(0, rf G 69), (1, .int x0), (2, .int x1), (3, .int x2), (4, .int x3), (5, .int x4), (6, .int x5), (7, .int x6), (8, .int x7)] [] _ _ _ _ _
  refine V_aload_n 1 0 rfl _ rfl rfl dX11_seaOf_0 rfl ?_
  refine V_getR 4 69 11 31 85 (hRM 31) flX11_62 rfl rfl rfl (by decide) dX11_seaOf_1 rfl ?_
  refine V_iconst 5 (0) rfl dX11_seaOf_4 rfl ?_
  refine V_iload_n 6 1 rfl rfl dX11_seaOf_5 rfl ?_
  refine V_iastN 7 85 8 0 (by decide) (by decide) rfl (by decide) dX11_seaOf_6 rfl ?_
  refine V_aload_n 8 0 rfl _ rfl rfl dX11_seaOf_7 rfl ?_
  refine V_getR 11 69 11 31 85 (hRM 31) flX11_62 rfl rfl rfl (by decide) dX11_seaOf_8 rfl ?_
  refine V_iconst 12 (1) rfl dX11_seaOf_11 rfl ?_
  refine V_iload_n 13 2 rfl rfl dX11_seaOf_12 rfl ?_
  refine V_iastN 14 85 8 1 (by decide) (by decide) rfl (by decide) dX11_seaOf_13 rfl ?_
  refine V_aload_n 15 0 rfl _ rfl rfl dX11_seaOf_14 rfl ?_
  refine V_getR 18 69 11 31 85 (hRM 31) flX11_62 rfl rfl rfl (by decide) dX11_seaOf_15 rfl ?_
  refine V_iconst 19 (2) rfl dX11_seaOf_18 rfl ?_
  refine V_iload_n 20 3 rfl rfl dX11_seaOf_19 rfl ?_
  refine V_iastN 21 85 8 2 (by decide) (by decide) rfl (by decide) dX11_seaOf_20 rfl ?_
  refine V_aload_n 22 0 rfl _ rfl rfl dX11_seaOf_21 rfl ?_
  refine V_getR 25 69 11 31 85 (hRM 31) flX11_62 rfl rfl rfl (by decide) dX11_seaOf_22 rfl ?_
  refine V_iconst 26 (3) rfl dX11_seaOf_25 rfl ?_
  refine V_iload 28 4 rfl dX11_seaOf_26 rfl ?_
  refine V_iastN 29 85 8 3 (by decide) (by decide) rfl (by decide) dX11_seaOf_28 rfl ?_
  refine V_aload_n 30 0 rfl _ rfl rfl dX11_seaOf_29 rfl ?_
  refine V_getR 33 69 11 31 85 (hRM 31) flX11_62 rfl rfl rfl (by decide) dX11_seaOf_30 rfl ?_
  refine V_iconst 34 (4) rfl dX11_seaOf_33 rfl ?_
  refine V_iload 36 5 rfl dX11_seaOf_34 rfl ?_
  refine V_iastN 37 85 8 4 (by decide) (by decide) rfl (by decide) dX11_seaOf_36 rfl ?_
  refine V_aload_n 38 0 rfl _ rfl rfl dX11_seaOf_37 rfl ?_
  refine V_getR 41 69 11 31 85 (hRM 31) flX11_62 rfl rfl rfl (by decide) dX11_seaOf_38 rfl ?_
  refine V_iconst 42 (5) rfl dX11_seaOf_41 rfl ?_
  refine V_iload 44 6 rfl dX11_seaOf_42 rfl ?_
  refine V_iastN 45 85 8 5 (by decide) (by decide) rfl (by decide) dX11_seaOf_44 rfl ?_
  refine V_aload_n 46 0 rfl _ rfl rfl dX11_seaOf_45 rfl ?_
  refine V_getR 49 69 11 31 85 (hRM 31) flX11_62 rfl rfl rfl (by decide) dX11_seaOf_46 rfl ?_
  refine V_bipush 51 (6) rfl dX11_seaOf_49 rfl ?_
  refine V_iload 53 7 rfl dX11_seaOf_51 rfl ?_
  refine V_iastN 54 85 8 6 (by decide) (by decide) rfl (by decide) dX11_seaOf_53 rfl ?_
  refine V_aload_n 55 0 rfl _ rfl rfl dX11_seaOf_54 rfl ?_
  refine V_getR 58 69 11 31 85 (hRM 31) flX11_62 rfl rfl rfl (by decide) dX11_seaOf_55 rfl ?_
  refine V_bipush 60 (7) rfl dX11_seaOf_58 rfl ?_
  refine V_iload 62 8 rfl dX11_seaOf_60 rfl ?_
  refine V_iastN 63 85 8 7 (by decide) (by decide) rfl (by decide) dX11_seaOf_62 rfl ?_
  refine V_aload_n 64 0 rfl _ rfl rfl dX11_seaOf_63 rfl ?_
  have hfx : f ((up2 (up2 (up2 (up2 (up2 (up2 (up2 (up2 I 85 0 x0) 85 1 x1) 85 2 x2) 85 3 x3) 85 4 x4) 85 5 x5) 85 6 x6) 85 7 x7) 85) = f (f8 x0 x1 x2 x3 x4 x5 x6 x7) := hL.ext _ _ (fun k hk => by rcases (show k = 0 ∨ k = 1 ∨ k = 2 ∨ k = 3 ∨ k = 4 ∨ k = 5 ∨ k = 6 ∨ k = 7 by omega) with rfl | rfl | rfl | rfl | rfl | rfl | rfl | rfl <;> rfl)
  refine V_callV (K' := 0) (S' := 0) 67 69 11 0 [] mkX11_seaNow lkX11_342 (by decide) rfl rfl (by decide) rfl (Nat.le_of_ble_eq_true rfl) (Nat.le_of_ble_eq_true rfl) (Nat.le_of_ble_eq_true rfl) (Nat.le_of_ble_eq_true rfl) rfl rfl dX11_seaOf_64 rfl (c_X11_seaNow hRM (hL.fr rfl rfl rfl) (fun I1 hI1 => ?_))
  rw [hfx]
  refine Kq_i (k' := 0) (sl' := 0) rfl rfl ?_
  refine V_ret_i rfl rfl (Nat.le_refl _) (fun h => absurd h (by decide)) (Nat.le_refl _) (hq I1 (fun a h1 h2 => by rw [hI1 a h1, up2_n _ _ _ h2, up2_n _ _ _ h2, up2_n _ _ _ h2, up2_n _ _ _ h2, up2_n _ _ _ h2, up2_n _ _ _ h2, up2_n _ _ _ h2, up2_n _ _ _ h2])) dX11_seaOf_67
