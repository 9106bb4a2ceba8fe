/-! ===== the class's Tape (2): what it asks, takes, refuses ===== -/
abbrev FT : Type := Nat × Nat
def bd {α β : Type} (x : FT ⊕ α) (f : α → FT ⊕ β) : FT ⊕ β := match x with
  | .inl e => .inl e
  | .inr a => f a
/-- a number from lo on, below cnt: its value, the next token -/
def pNum (t : Nat → Nat) (z lo cnt p : Nat) : FT ⊕ (Nat × Nat) := if p < z ∧ dg (t p) = true then (if lo ≤ nuF t z p ∧ nuF t z p < cnt then .inr (nuF t z p, nx t z p) else .inl (2, p)) else .inl (1, p)
def pSig (t : Nat → Nat) (z c p : Nat) : FT ⊕ Nat := if p < z ∧ t p = c then .inr (nx t z p) else .inl (1, p)
/-- the word of constant i stands at p -/
def WdAt (t : Nat → Nat) (z p i : Nat) : Prop := sc le_ t z p - p = stL i ∧ ∀ j, j < stL i → t (p + j) = stN i j
theorem wd_eq {t : Nat → Nat} {z p i j : Nat} (h : strB i = strB j) : WdAt t z p i ↔ WdAt t z p j := by
  unfold WdAt stL stN; rw [h]
theorem pNum_ok {t : Nat → Nat} {z lo cnt p v p' : Nat} (h : pNum t z lo cnt p = .inr (v, p')) : p < z ∧ dg (t p) = true ∧ lo ≤ v ∧ v < cnt ∧ v = nuF t z p ∧ p' = nx t z p ∧ p < p' ∧ p' ≤ z := by
  unfold pNum at h
  by_cases c : p < z ∧ dg (t p) = true
  · rw [if_pos c] at h
    by_cases c2 : lo ≤ nuF t z p ∧ nuF t z p < cnt
    · rw [if_pos c2] at h
      cases h
      obtain ⟨a, b, e⟩ := nx_z (t := t) (Nat.le_of_lt c.1)
      exact ⟨c.1, c.2, c2.1, c2.2, rfl, rfl, e c.1, b⟩
    · rw [if_neg c2] at h; cases h
  · rw [if_neg c] at h; cases h
theorem pNum_no {t : Nat → Nat} {z lo cnt p k q : Nat} (h : pNum t z lo cnt p = .inl (k, q)) : q = p ∧ ((k = 1 ∧ ¬ (p < z ∧ dg (t p) = true)) ∨ (k = 2 ∧ p < z ∧ dg (t p) = true ∧ ¬ (lo ≤ nuF t z p ∧ nuF t z p < cnt))) := by
  unfold pNum at h
  by_cases c : p < z ∧ dg (t p) = true
  · rw [if_pos c] at h
    by_cases c2 : lo ≤ nuF t z p ∧ nuF t z p < cnt
    · rw [if_pos c2] at h; cases h
    · rw [if_neg c2] at h; cases h; exact ⟨rfl, Or.inr ⟨rfl, c.1, c.2, c2⟩⟩
  · rw [if_neg c] at h; cases h; exact ⟨rfl, Or.inl ⟨rfl, c⟩⟩
theorem pSig_ok {t : Nat → Nat} {z c p p' : Nat} (h : pSig t z c p = .inr p') : p < z ∧ t p = c ∧ p' = nx t z p ∧ p < p' ∧ p' ≤ z := by
  unfold pSig at h
  by_cases e : p < z ∧ t p = c
  · rw [if_pos e] at h
    cases h
    obtain ⟨a, b, f⟩ := nx_z (t := t) (Nat.le_of_lt e.1)
    exact ⟨e.1, e.2, rfl, f e.1, b⟩
  · rw [if_neg e] at h; cases h
theorem pSig_no {t : Nat → Nat} {z c p k q : Nat} (h : pSig t z c p = .inl (k, q)) : q = p ∧ k = 1 ∧ ¬ (p < z ∧ t p = c) := by
  unfold pSig at h
  by_cases e : p < z ∧ t p = c
  · rw [if_pos e] at h; cases h
  · rw [if_neg e] at h; cases h; exact ⟨rfl, rfl, e⟩
theorem c_X8_isFaulty {G : Gx} {d : Nat} {I : FI} {R : FR} {J : FJ} {Q : Po} (h0 : I 1 7 = 0 → Q (.inl (some (.int 0))) 103 I R J) (h1 : ¬ I 1 7 = 0 → Q (.inl (some (.int 1))) 103 I R J) : Cc G mX8_isFaulty d 0 0 [rf G 1] 103 I R J Q := by
  show V _ _ _ _ _ _ _ _ [(0, rf G 1)] [] _ _ _ _ _
  refine V_aload_n 1 0 rfl _ rfl rfl dX8_isFaulty_0 rfl ?_
  refine V_getI 4 1 8 7 (I 1 7) rfl flX8_37 rfl rfl rfl (by decide) dX8_isFaulty_1 rfl ?_
  refine V_if_eq 11 7 rfl dX8_isFaulty_4 rfl (fun c4 => ?_) (fun c4 => ?_)
  · refine V_iconst 12 (0) rfl dX8_isFaulty_11 rfl ?_
    refine V_ret_i rfl (by first | rfl | decide) (Nat.le_of_ble_eq_true rfl) (fun h => absurd h (by decide)) (Nat.le_of_ble_eq_true rfl) (h0 c4) dX8_isFaulty_12
  · refine V_iconst 8 (1) rfl dX8_isFaulty_7 rfl ?_
    refine V_goto 12 rfl dX8_isFaulty_8 ?_
    refine V_ret_i rfl (by first | rfl | decide) (Nat.le_of_ble_eq_true rfl) (fun h => absurd h (by decide)) (Nat.le_of_ble_eq_true rfl) (h1 c4) dX8_isFaulty_12
set_option maxHeartbeats 4000000 in
theorem c_X8_isAtEnd {G : Gx} {d : Nat} {I : FI} {R : FR} {J : FJ} {Q : Po} (hRK : RK R) {t : Nat → Nat} {z : Nat} (hT : TxC I t z) {p : Nat} {fc fp : Int32} (h1 : z ≤ p → Q (.inl (some (.int 1))) 103 (tp t z I p fc fp) R J) (h0 : p < z → Q (.inl (some (.int 0))) 103 (tp t z I p fc fp) R J) : Cc G mX8_isAtEnd d 0 0 [rf G 1] 103 (tp t z I p fc fp) R J Q := by
  have h6 := hT.2.1
  show V _ _ _ _ _ _ _ _ [(0, rf G 1)] [] _ _ _ _ _
  by_cases c : z ≤ p
  · refine V_aload_n 1 0 rfl _ rfl rfl dX8_isAtEnd_0 rfl ?_
    refine V_getI 4 1 8 5 0 (show nI (kdF t z p) = 0 by unfold kdF; rw [if_pos c]; rfl) flX8_49 rfl rfl rfl (by decide) dX8_isAtEnd_1 rfl ?_
    refine V_if_ne 11 7 rfl dX8_isAtEnd_4 rfl (fun c4 => absurd rfl c4) (fun c4 => ?_)
    refine V_iconst 8 (1) rfl dX8_isAtEnd_7 rfl ?_
    refine V_goto 12 rfl dX8_isAtEnd_8 ?_
    refine V_ret_i rfl (by first | rfl | decide) (Nat.le_of_ble_eq_true rfl) (fun h => absurd h (by decide)) (Nat.le_of_ble_eq_true rfl) (h1 c) dX8_isAtEnd_12
  · have kne : ¬ nI (kdF t z p) = 0 := by
      unfold kdF
      rw [if_neg c]
      split
      · decide
      · split <;> decide
    refine V_aload_n 1 0 rfl _ rfl rfl dX8_isAtEnd_0 rfl ?_
    refine V_getI 4 1 8 5 (nI (kdF t z p)) rfl flX8_49 rfl rfl rfl (by decide) dX8_isAtEnd_1 rfl ?_
    refine V_if_ne 11 7 rfl dX8_isAtEnd_4 rfl (fun c4 => ?_) (fun c4 => absurd c4 kne)
    refine V_iconst 12 (0) rfl dX8_isAtEnd_11 rfl ?_
    refine V_ret_i rfl (by first | rfl | decide) (Nat.le_of_ble_eq_true rfl) (fun h => absurd h (by decide)) (Nat.le_of_ble_eq_true rfl) (h0 (by omega)) dX8_isAtEnd_12
set_option maxHeartbeats 4000000 in
theorem c_X8_isNumber {G : Gx} {d : Nat} {I : FI} {R : FR} {J : FJ} {Q : Po} (hRK : RK R) {t : Nat → Nat} {z : Nat} (hT : TxC I t z) {p : Nat} {fc fp : Int32} (h1 : p < z ∧ dg (t p) = true → Q (.inl (some (.int 1))) 103 (tp t z I p fc fp) R J) (h0 : ¬ (p < z ∧ dg (t p) = true) → Q (.inl (some (.int 0))) 103 (tp t z I p fc fp) R J) : Cc G mX8_isNumber d 0 0 [rf G 1] 103 (tp t z I p fc fp) R J Q := by
  have h6 := hT.2.1
  show V _ _ _ _ _ _ _ _ [(0, rf G 1)] [] _ _ _ _ _
  by_cases c : p < z ∧ dg (t p) = true
  · refine V_aload_n 1 0 rfl _ rfl rfl dX8_isNumber_0 rfl ?_
    refine V_getI 4 1 8 5 1 (show nI (kdF t z p) = 1 by unfold kdF; rw [if_neg (Nat.not_le.mpr c.1), if_pos c.2]; rfl) flX8_49 rfl rfl rfl (by decide) dX8_isNumber_1 rfl ?_
    refine V_iconst 5 (1) rfl dX8_isNumber_4 rfl ?_
    refine V_icmp_ne 12 8 rfl dX8_isNumber_5 rfl (fun c5 => absurd rfl c5) (fun c5 => ?_)
    refine V_iconst 9 (1) rfl dX8_isNumber_8 rfl ?_
    refine V_goto 13 rfl dX8_isNumber_9 ?_
    refine V_ret_i rfl (by first | rfl | decide) (Nat.le_of_ble_eq_true rfl) (fun h => absurd h (by decide)) (Nat.le_of_ble_eq_true rfl) (h1 c) dX8_isNumber_13
  · have kne : ¬ nI (kdF t z p) = 1 := by
      unfold kdF
      split
      · decide
      · split
        · exact absurd ⟨by omega, by assumption⟩ c
        · split <;> decide
    refine V_aload_n 1 0 rfl _ rfl rfl dX8_isNumber_0 rfl ?_
    refine V_getI 4 1 8 5 (nI (kdF t z p)) rfl flX8_49 rfl rfl rfl (by decide) dX8_isNumber_1 rfl ?_
    refine V_iconst 5 (1) rfl dX8_isNumber_4 rfl ?_
    refine V_icmp_ne 12 8 rfl dX8_isNumber_5 rfl (fun c5 => ?_) (fun c5 => absurd c5 kne)
    refine V_iconst 13 (0) rfl dX8_isNumber_12 rfl ?_
    refine V_ret_i rfl (by first | rfl | decide) (Nat.le_of_ble_eq_true rfl) (fun h => absurd h (by decide)) (Nat.le_of_ble_eq_true rfl) (h0 c) dX8_isNumber_13
set_option maxHeartbeats 4000000 in
theorem c_X8_isSign {G : Gx} {d : Nat} {I : FI} {R : FR} {J : FJ} {Q : Po} (hRK : RK R) {t : Nat → Nat} {z : Nat} (hT : TxC I t z) {p : Nat} {fc fp : Int32} {c : Nat} (hc : c < 128) (hd : ¬ dg c = true) (hl : ¬ le_ c = true) (h1 : fc = 0 → p < z → t p = c → Q (.inl (some (.int 1))) 103 (tp t z I p fc fp) R J) (h0 : ¬ (fc = 0 ∧ p < z ∧ t p = c) → Q (.inl (some (.int 0))) 103 (tp t z I p fc fp) R J) : Cc G mX8_isSign (d + 1) 0 0 [rf G 1, .int (nI c)] 103 (tp t z I p fc fp) R J Q := by
  have h6 := hT.2.1
  show V _ _ _ _ _ _ _ _ [(0, rf G 1), (1, .int (nI c))] [] _ _ _ _ _
  by_cases cf : fc = 0
  · by_cases cz : p < z
    · by_cases c3 : kdF t z p = 3
      · refine V_aload_n 1 0 rfl _ rfl rfl dX8_isSign_0 rfl ?_
        refine V_getI 4 1 8 7 fc rfl flX8_37 rfl rfl rfl (by decide) dX8_isSign_1 rfl ?_
        refine V_if_ne 43 7 rfl dX8_isSign_4 rfl (fun c4 => absurd cf c4) (fun c4 => ?_)
        refine V_aload_n 8 0 rfl _ rfl rfl dX8_isSign_7 rfl ?_
        refine V_getI 11 1 8 5 3 (show nI (kdF t z p) = 3 by rw [c3]; rfl) flX8_49 rfl rfl rfl (by decide) dX8_isSign_8 rfl ?_
        refine V_iconst 12 (3) rfl dX8_isSign_11 rfl ?_
        refine V_icmp_ne 43 15 rfl dX8_isSign_12 rfl (fun c12 => absurd c12 (by decide)) (fun c12 => ?_)
        refine V_aload_n 16 0 rfl _ rfl rfl dX8_isSign_15 rfl ?_
        refine V_getI 19 1 8 3 (nI p) rfl flX8_43 rfl rfl rfl (by decide) dX8_isSign_16 rfl ?_
        refine V_aload_n 20 0 rfl _ rfl rfl dX8_isSign_19 rfl ?_
        refine V_getI 23 1 8 2 (nI z) hT.1 flX8_31 rfl rfl rfl (by decide) dX8_isSign_20 rfl ?_
        refine V_icmp_ge 43 26 rfl dX8_isSign_23 rfl (fun c23 => absurd c23 (nI_ge cz (by omega))) (fun c23 => ?_)
        refine V_aload_n 27 0 rfl _ rfl rfl dX8_isSign_26 rfl ?_
        refine V_getR 30 1 8 0 2 (hRK 1 0 (by decide) (by decide) (by decide)) flX8_9 rfl rfl rfl (by decide) dX8_isSign_27 rfl ?_
        refine V_aload_n 31 0 rfl _ rfl rfl dX8_isSign_30 rfl ?_
        refine V_getI 34 1 8 3 (nI p) rfl flX8_43 rfl rfl rfl (by decide) dX8_isSign_31 rfl ?_
        refine V_baldN 35 2 600 p (bI (t p)) (hT.tr.2.2.1 _ (by omega)) (by omega) (by decide) rfl (by decide) dX8_isSign_34 rfl ?_
        refine V_iload_n 36 1 rfl rfl dX8_isSign_35 rfl ?_
        refine V_icmp_ne 43 39 rfl dX8_isSign_36 rfl (fun c36 => ?_) (fun c36 => ?_)
        · refine V_iconst 44 (0) rfl dX8_isSign_43 rfl ?_
          refine V_ret_i rfl (by first | rfl | decide) (Nat.le_of_ble_eq_true rfl) (fun h => absurd h (by decide)) (Nat.le_of_ble_eq_true rfl) (h0 (fun q => c36 ((bI_c (hT.2.2.2 p) hc).mpr q.2.2))) dX8_isSign_44
        · refine V_iconst 40 (1) rfl dX8_isSign_39 rfl ?_
          refine V_goto 44 rfl dX8_isSign_40 ?_
          refine V_ret_i rfl (by first | rfl | decide) (Nat.le_of_ble_eq_true rfl) (fun h => absurd h (by decide)) (Nat.le_of_ble_eq_true rfl) (h1 cf cz ((bI_c (hT.2.2.2 p) hc).mp c36)) dX8_isSign_44
      · have kne : ¬ nI (kdF t z p) = 3 := by
          unfold kdF at c3 ⊢
          split
          · decide
          · split
            · decide
            · split
              · decide
              · rename_i q1 q2 q3; rw [if_neg q1, if_neg q2, if_neg q3] at c3; exact absurd rfl c3
        have nc : ¬ t p = c := by
          intro e
          unfold kdF at c3
          rw [if_neg (by omega), e, if_neg hd, if_neg hl] at c3
          exact c3 rfl
        refine V_aload_n 1 0 rfl _ rfl rfl dX8_isSign_0 rfl ?_
        refine V_getI 4 1 8 7 fc rfl flX8_37 rfl rfl rfl (by decide) dX8_isSign_1 rfl ?_
        refine V_if_ne 43 7 rfl dX8_isSign_4 rfl (fun c4 => absurd cf c4) (fun c4 => ?_)
        refine V_aload_n 8 0 rfl _ rfl rfl dX8_isSign_7 rfl ?_
        refine V_getI 11 1 8 5 (nI (kdF t z p)) rfl flX8_49 rfl rfl rfl (by decide) dX8_isSign_8 rfl ?_
        refine V_iconst 12 (3) rfl dX8_isSign_11 rfl ?_
        refine V_icmp_ne 43 15 rfl dX8_isSign_12 rfl (fun c12 => ?_) (fun c12 => absurd c12 kne)
        refine V_iconst 44 (0) rfl dX8_isSign_43 rfl ?_
        refine V_ret_i rfl (by first | rfl | decide) (Nat.le_of_ble_eq_true rfl) (fun h => absurd h (by decide)) (Nat.le_of_ble_eq_true rfl) (h0 (fun q => nc q.2.2)) dX8_isSign_44
    · refine V_aload_n 1 0 rfl _ rfl rfl dX8_isSign_0 rfl ?_
      refine V_getI 4 1 8 7 fc rfl flX8_37 rfl rfl rfl (by decide) dX8_isSign_1 rfl ?_
      refine V_if_ne 43 7 rfl dX8_isSign_4 rfl (fun c4 => absurd cf c4) (fun c4 => ?_)
      refine V_aload_n 8 0 rfl _ rfl rfl dX8_isSign_7 rfl ?_
      refine V_getI 11 1 8 5 0 (show nI (kdF t z p) = 0 by unfold kdF; rw [if_pos (by omega)]; rfl) flX8_49 rfl rfl rfl (by decide) dX8_isSign_8 rfl ?_
      refine V_iconst 12 (3) rfl dX8_isSign_11 rfl ?_
      refine V_icmp_ne 43 15 rfl dX8_isSign_12 rfl (fun c12 => ?_) (fun c12 => absurd c12 (by decide))
      refine V_iconst 44 (0) rfl dX8_isSign_43 rfl ?_
      refine V_ret_i rfl (by first | rfl | decide) (Nat.le_of_ble_eq_true rfl) (fun h => absurd h (by decide)) (Nat.le_of_ble_eq_true rfl) (h0 (fun q => cz q.2.1)) dX8_isSign_44
  · refine V_aload_n 1 0 rfl _ rfl rfl dX8_isSign_0 rfl ?_
    refine V_getI 4 1 8 7 fc rfl flX8_37 rfl rfl rfl (by decide) dX8_isSign_1 rfl ?_
    refine V_if_ne 43 7 rfl dX8_isSign_4 rfl (fun c4 => ?_) (fun c4 => absurd c4 cf)
    refine V_iconst 44 (0) rfl dX8_isSign_43 rfl ?_
    refine V_ret_i rfl (by first | rfl | decide) (Nat.le_of_ble_eq_true rfl) (fun h => absurd h (by decide)) (Nat.le_of_ble_eq_true rfl) (h0 (fun q => cf q.1)) dX8_isSign_44
set_option maxHeartbeats 4000000 in
theorem c_X8_isWord {G : Gx} {d : Nat} {I : FI} {R : FR} {J : FJ} {Q : Po} (hRK : RK R) {t : Nat → Nat} {z : Nat} (hT : TxC I t z) {p : Nat} {fc fp : Int32} {i : Nat} (hp : p ≤ z) (hi : i < 45) (hi1 : 0 < stL i) (h1 : WdAt t z p i → Q (.inl (some (.int 1))) 103 (tp t z I p fc fp) R J) (h0 : ¬ WdAt t z p i → Q (.inl (some (.int 0))) 103 (tp t z I p fc fp) R J) : Cc G mX8_isWord (d + 1 + 1 + 1 + 1) 0 0 [rf G 1, sr G i] 103 (tp t z I p fc fp) R J Q := by
  have h6 := hT.2.1
  show V _ _ _ _ _ _ _ _ [(0, rf G 1), (1, sr G i)] [] _ _ _ _ _
  have s34 : stL i ≤ 34 := (str_ok i hi).1
  by_cases k2 : p < z ∧ ¬ dg (t p) = true ∧ le_ (t p) = true
  · have ek : kdF t z p = 2 := by unfold kdF; rw [if_neg (by omega), if_neg k2.2.1, if_pos k2.2.2]
    have ee : enF t z p = sc le_ t z p := by unfold enF; rw [if_neg (by omega), if_neg k2.2.1, if_pos k2.2.2]
    obtain ⟨q1, q2⟩ := sc_z (P := le_) (t := t) hp
    by_cases kl : sc le_ t z p - p = stL i
    · have L : ∀ j, j ≤ stL i → (∀ q, q < j → t (p + q) = stN i q) → V G mX8_isWord (d + 1 + 1 + 1 + 1) 0 0 0 0 28 [(2, .int (nI j)), (0, rf G 1), (1, sr G i)] [] 103 (tp t z I p fc fp) R J Q := by
        refine loopd (stL i) (fun hs => ?_) (fun j hj ih hs => ?_)
        · refine V_iload_n 29 0 rfl rfl dX8_isWord_28 rfl ?_
          refine V_aload_n 30 2 rfl _ rfl rfl dX8_isWord_29 rfl ?_
          refine V_callT (K' := 0) (S' := 0) 33 i 0 [] mkJ0_length_8abf5 lkX8_53 hi rfl rfl (Nat.le_of_ble_eq_true rfl) (Nat.le_of_ble_eq_true rfl) (Nat.le_of_ble_eq_true rfl) (Nat.le_of_ble_eq_true rfl) rfl rfl dX8_isWord_30 rfl (c_J0_length hi ?_)
          refine Kq_i (k' := 0) (sl' := 0) rfl rfl ?_
          refine V_icmp_ge 76 36 rfl dX8_isWord_33 rfl (fun c33 => ?_) (fun c33 => absurd (Int32.le_refl _) c33)
          refine V_iconst 77 (1) rfl dX8_isWord_76 rfl ?_
          refine V_ret_i rfl (by first | rfl | decide) (Nat.le_of_ble_eq_true rfl) (fun h => absurd h (by decide)) (Nat.le_of_ble_eq_true rfl) (h1 ⟨kl, hs⟩) dX8_isWord_77
        · refine V_iload_n 29 0 rfl rfl dX8_isWord_28 rfl ?_
          refine V_aload_n 30 2 rfl _ rfl rfl dX8_isWord_29 rfl ?_
          refine V_callT (K' := 0) (S' := 0) 33 i 0 [] mkJ0_length_8abf5 lkX8_53 hi rfl rfl (Nat.le_of_ble_eq_true rfl) (Nat.le_of_ble_eq_true rfl) (Nat.le_of_ble_eq_true rfl) (Nat.le_of_ble_eq_true rfl) rfl rfl dX8_isWord_30 rfl (c_J0_length hi ?_)
          refine Kq_i (k' := 0) (sl' := 0) rfl rfl ?_
          refine V_icmp_ge 76 36 rfl dX8_isWord_33 rfl (fun c33 => absurd c33 (nI_ge hj (by omega))) (fun c33 => ?_)
          refine V_aload_n 37 1 rfl _ rfl rfl dX8_isWord_36 rfl ?_
          refine V_getI 40 1 8 3 (nI p) rfl flX8_43 rfl rfl rfl (by decide) dX8_isWord_37 rfl ?_
          refine V_iload_n 41 0 rfl rfl dX8_isWord_40 rfl ?_
          refine V_iadd 42 dX8_isWord_41 rfl ?_
          refine V_rw (nI_add p j) ?_
          refine V_aload_n 43 1 rfl _ rfl rfl dX8_isWord_42 rfl ?_
          refine V_getI 46 1 8 2 (nI z) hT.1 flX8_31 rfl rfl rfl (by decide) dX8_isWord_43 rfl ?_
          refine V_icmp_ge 76 49 rfl dX8_isWord_46 rfl (fun c46 => absurd c46 (nI_ge (show p + j < z by omega) (by omega))) (fun c46 => ?_)
          refine V_aload_n 50 1 rfl _ rfl rfl dX8_isWord_49 rfl ?_
          refine V_getR 53 1 8 0 2 (hRK 1 0 (by decide) (by decide) (by decide)) flX8_9 rfl rfl rfl (by decide) dX8_isWord_50 rfl ?_
          refine V_aload_n 54 1 rfl _ rfl rfl dX8_isWord_53 rfl ?_
          refine V_getI 57 1 8 3 (nI p) rfl flX8_43 rfl rfl rfl (by decide) dX8_isWord_54 rfl ?_
          refine V_iload_n 58 0 rfl rfl dX8_isWord_57 rfl ?_
          refine V_iadd 59 dX8_isWord_58 rfl ?_
          refine V_rw (nI_add p j) ?_
          refine V_baldN 60 2 600 (p + j) (bI (t (p + j))) (hT.tr.2.2.1 _ (by omega)) (by omega) (by decide) rfl (by decide) dX8_isWord_59 rfl ?_
          refine V_aload_n 61 2 rfl _ rfl rfl dX8_isWord_60 rfl ?_
          refine V_iload_n 62 0 rfl rfl dX8_isWord_61 rfl ?_
          refine V_callT (K' := 0) (S' := 0) 65 i 1 [.int (nI j)] mkJ0_charAt_5068e lkX8_58 hi rfl rfl (Nat.le_of_ble_eq_true rfl) (Nat.le_of_ble_eq_true rfl) (Nat.le_of_ble_eq_true rfl) (Nat.le_of_ble_eq_true rfl) rfl rfl dX8_isWord_62 rfl (c_J0_charAt hi hj ?_)
          refine Kq_i (k' := 0) (sl' := 0) rfl rfl ?_
          refine V_icmp_eq 70 68 rfl dX8_isWord_65 rfl (fun c65 => ?_) (fun c65 => ?_)
          · refine V_iinc 73 0 rfl (nI (j + 1)) [(2, .int (nI (j + 1))), (0, rf G 1), (1, sr G i)] (nI_1 _) (by decide) rfl dX8_isWord_70 rfl ?_
            refine V_goto 28 rfl dX8_isWord_73 ?_
            exact V_lv [0, 1, 2] rfl (ih (fun q hq => if e : q = j then by rw [e]; exact (bI_c (hT.2.2.2 _) (stN_ok hi hj).2).mp c65 else hs q (by omega)))
          · refine V_iconst 69 (0) rfl dX8_isWord_68 rfl ?_
            refine V_ret_i rfl (by first | rfl | decide) (Nat.le_of_ble_eq_true rfl) (fun h => absurd h (by decide)) (Nat.le_of_ble_eq_true rfl) (h0 (fun q => c65 ((bI_c (hT.2.2.2 _) (stN_ok hi hj).2).mpr (q.2 j hj)))) dX8_isWord_69
      refine V_aload_n 1 0 rfl _ rfl rfl dX8_isWord_0 rfl ?_
      refine V_getI 4 1 8 5 2 (show nI (kdF t z p) = 2 by rw [ek]; rfl) flX8_49 rfl rfl rfl (by decide) dX8_isWord_1 rfl ?_
      refine V_iconst 5 (2) rfl dX8_isWord_4 rfl ?_
      refine V_icmp_ne 24 8 rfl dX8_isWord_5 rfl (fun c5 => absurd rfl c5) (fun c5 => ?_)
      refine V_aload_n 9 0 rfl _ rfl rfl dX8_isWord_8 rfl ?_
      refine V_getI 12 1 8 4 (nI (sc le_ t z p)) (show nI (enF t z p) = _ by rw [ee]) flX8_34 rfl rfl rfl (by decide) dX8_isWord_9 rfl ?_
      refine V_aload_n 13 0 rfl _ rfl rfl dX8_isWord_12 rfl ?_
      refine V_getI 16 1 8 3 (nI p) rfl flX8_43 rfl rfl rfl (by decide) dX8_isWord_13 rfl ?_
      refine V_isub 17 dX8_isWord_16 rfl ?_
      refine V_rw (pk_sub q1) ?_
      refine V_aload_n 18 1 rfl _ rfl rfl dX8_isWord_17 rfl ?_
      refine V_callT (K' := 0) (S' := 0) 21 i 0 [] mkJ0_length_8abf5 lkX8_53 hi rfl rfl (Nat.le_of_ble_eq_true rfl) (Nat.le_of_ble_eq_true rfl) (Nat.le_of_ble_eq_true rfl) (Nat.le_of_ble_eq_true rfl) rfl rfl dX8_isWord_18 rfl (c_J0_length hi ?_)
      refine Kq_i (k' := 0) (sl' := 0) rfl rfl ?_
      refine V_icmp_eq 26 24 rfl dX8_isWord_21 rfl (fun c21 => ?_) (fun c21 => absurd (by rw [kl]) c21)
      refine V_iconst 27 (0) rfl dX8_isWord_26 rfl ?_
      refine V_istore_n 28 [(2, .int 0), (0, rf G 1), (1, sr G i)] (by decide) rfl rfl dX8_isWord_27 rfl ?_
      exact V_lv [0, 1, 2] rfl (L 0 (Nat.zero_le _) (fun q h => absurd h (by omega)))
    · refine V_aload_n 1 0 rfl _ rfl rfl dX8_isWord_0 rfl ?_
      refine V_getI 4 1 8 5 2 (show nI (kdF t z p) = 2 by rw [ek]; rfl) flX8_49 rfl rfl rfl (by decide) dX8_isWord_1 rfl ?_
      refine V_iconst 5 (2) rfl dX8_isWord_4 rfl ?_
      refine V_icmp_ne 24 8 rfl dX8_isWord_5 rfl (fun c5 => absurd rfl c5) (fun c5 => ?_)
      refine V_aload_n 9 0 rfl _ rfl rfl dX8_isWord_8 rfl ?_
      refine V_getI 12 1 8 4 (nI (sc le_ t z p)) (show nI (enF t z p) = _ by rw [ee]) flX8_34 rfl rfl rfl (by decide) dX8_isWord_9 rfl ?_
      refine V_aload_n 13 0 rfl _ rfl rfl dX8_isWord_12 rfl ?_
      refine V_getI 16 1 8 3 (nI p) rfl flX8_43 rfl rfl rfl (by decide) dX8_isWord_13 rfl ?_
      refine V_isub 17 dX8_isWord_16 rfl ?_
      refine V_rw (pk_sub q1) ?_
      refine V_aload_n 18 1 rfl _ rfl rfl dX8_isWord_17 rfl ?_
      refine V_callT (K' := 0) (S' := 0) 21 i 0 [] mkJ0_length_8abf5 lkX8_53 hi rfl rfl (Nat.le_of_ble_eq_true rfl) (Nat.le_of_ble_eq_true rfl) (Nat.le_of_ble_eq_true rfl) (Nat.le_of_ble_eq_true rfl) rfl rfl dX8_isWord_18 rfl (c_J0_length hi ?_)
      refine Kq_i (k' := 0) (sl' := 0) rfl rfl ?_
      refine V_icmp_eq 26 24 rfl dX8_isWord_21 rfl (fun c21 => absurd ((nI_eq (by omega) (by omega)).mp c21) kl) (fun c21 => ?_)
      refine V_iconst 25 (0) rfl dX8_isWord_24 rfl ?_
      refine V_ret_i rfl (by first | rfl | decide) (Nat.le_of_ble_eq_true rfl) (fun h => absurd h (by decide)) (Nat.le_of_ble_eq_true rfl) (h0 (fun q => kl q.1)) dX8_isWord_25
  · have kne : ¬ nI (kdF t z p) = 2 := by
      unfold kdF
      split
      · decide
      · split
        · decide
        · split
          · exact absurd ⟨by omega, by assumption, by assumption⟩ k2
          · decide
    have nw : ¬ WdAt t z p i := by
      intro q
      by_cases q1 : p < z ∧ le_ (t p) = true
      · refine k2 ⟨q1.1, fun q2 => ?_, q1.2⟩
        have a := dg_iff.mp q2
        have b := le_iff.mp q1.2
        omega
      · have e := q.1
        rw [sc_st q1] at e
        omega
    refine V_aload_n 1 0 rfl _ rfl rfl dX8_isWord_0 rfl ?_
    refine V_getI 4 1 8 5 (nI (kdF t z p)) rfl flX8_49 rfl rfl rfl (by decide) dX8_isWord_1 rfl ?_
    refine V_iconst 5 (2) rfl dX8_isWord_4 rfl ?_
    refine V_icmp_ne 24 8 rfl dX8_isWord_5 rfl (fun c5 => ?_) (fun c5 => absurd c5 kne)
    refine V_iconst 25 (0) rfl dX8_isWord_24 rfl ?_
    refine V_ret_i rfl (by first | rfl | decide) (Nat.le_of_ble_eq_true rfl) (fun h => absurd h (by decide)) (Nat.le_of_ble_eq_true rfl) (h0 nw) dX8_isWord_25
theorem tp_f {t : Nat → Nat} {z : Nat} {I : FI} {p : Nat} {fc fp : Int32} (c : Int32) (q : Nat) : up2 (up2 (tp t z I p fc fp) 1 7 c) 1 8 (nI q) = tp t z I p c (nI q) := by unfold tp; rw [tr_7, tr_8]
set_option maxHeartbeats 4000000 in
theorem c_X8_fail {G : Gx} {d : Nat} {I : FI} {R : FR} {J : FJ} {Q : Po} (hRK : RK R) {t : Nat → Nat} {z : Nat} (hT : TxC I t z) {p : Nat} {fc fp : Int32} {k : Nat} (h1 : ¬ fc = 0 → Q (.inl none) 103 (tp t z I p fc fp) R J) (h0 : fc = 0 → Q (.inl none) 103 (tp t z I p (nI k) (nI p)) R J) : Cc G mX8_fail (d + 1) 0 0 [rf G 1, .int (nI k)] 103 (tp t z I p fc fp) R J Q := by
  have h6 := hT.2.1
  show V _ _ _ _ _ _ _ _ [(0, rf G 1), (1, .int (nI k))] [] _ _ _ _ _
  by_cases cf : fc = 0
  · refine V_aload_n 1 0 rfl _ rfl rfl dX8_fail_0 rfl ?_
    refine V_getI 4 1 8 7 fc rfl flX8_37 rfl rfl rfl (by decide) dX8_fail_1 rfl ?_
    refine V_if_ne 20 7 rfl dX8_fail_4 rfl (fun c4 => absurd cf c4) (fun c4 => ?_)
    refine V_aload_n 8 0 rfl _ rfl rfl dX8_fail_7 rfl ?_
    refine V_iload_n 9 1 rfl rfl dX8_fail_8 rfl ?_
    refine V_putI 12 1 8 7 flX8_37 rfl rfl rfl (by decide) rfl dX8_fail_9 rfl ?_
    refine V_aload_n 13 0 rfl _ rfl rfl dX8_fail_12 rfl ?_
    refine V_aload_n 14 0 rfl _ rfl rfl dX8_fail_13 rfl ?_
    refine V_getI 17 1 8 3 (nI p) rfl flX8_43 rfl rfl rfl (by decide) dX8_fail_14 rfl ?_
    refine V_putI 20 1 8 8 flX8_15 rfl rfl rfl (by decide) rfl dX8_fail_17 rfl ?_
    refine V_ret_v rfl (Nat.le_of_ble_eq_true rfl) (fun h => absurd h (by decide)) (Nat.le_of_ble_eq_true rfl) (by rw [tp_f]; exact h0 cf) dX8_fail_20
  · refine V_aload_n 1 0 rfl _ rfl rfl dX8_fail_0 rfl ?_
    refine V_getI 4 1 8 7 fc rfl flX8_37 rfl rfl rfl (by decide) dX8_fail_1 rfl ?_
    refine V_if_ne 20 7 rfl dX8_fail_4 rfl (fun c4 => ?_) (fun c4 => absurd c4 cf)
    refine V_ret_v rfl (Nat.le_of_ble_eq_true rfl) (fun h => absurd h (by decide)) (Nat.le_of_ble_eq_true rfl) (h1 cf) dX8_fail_20
set_option maxHeartbeats 4000000 in
theorem c_X8_takeSign {G : Gx} {d : Nat} {I : FI} {R : FR} {J : FJ} {Q : Po} (hRK : RK R) {t : Nat → Nat} {z : Nat} (hT : TxC I t z) {p : Nat} {fc fp : Int32} {c : Nat} (hc : c < 128) (hd : ¬ dg c = true) (hl : ¬ le_ c = true) (hp : p ≤ z) (h1 : ¬ fc = 0 → Q (.inl none) 103 (tp t z I p fc fp) R J) (hk : ∀ p', fc = 0 → pSig t z c p = .inr p' → Q (.inl none) 103 (tp t z I p' fc fp) R J) (hb : fc = 0 → pSig t z c p = .inl (1, p) → Q (.inl none) 103 (tp t z I p 1 (nI p)) R J) : Cc G mX8_takeSign (d + 1 + 1 + 1) 0 0 [rf G 1, .int (nI c)] 103 (tp t z I p fc fp) R J Q := by
  have h6 := hT.2.1
  show V _ _ _ _ _ _ _ _ [(0, rf G 1), (1, .int (nI c))] [] _ _ _ _ _
  by_cases cs : fc = 0 ∧ p < z ∧ t p = c
  · refine V_aload_n 1 0 rfl _ rfl rfl dX8_takeSign_0 rfl ?_
    refine V_iload_n 2 1 rfl rfl dX8_takeSign_1 rfl ?_
    refine V_callV (K' := 0) (S' := 0) 5 1 8 1 [.int (nI c)] mkX8_isSign lkX8_62 (by decide) rfl rfl (by decide) rfl (Nat.le_of_ble_eq_true rfl) (Nat.le_of_ble_eq_true rfl) (Nat.le_of_ble_eq_true rfl) (Nat.le_of_ble_eq_true rfl) rfl rfl dX8_takeSign_2 rfl (c_X8_isSign hRK hT hc hd hl (fun e1 e2 e3 => ?_) (fun e1 => absurd cs e1))
    refine Kq_i (k' := 0) (sl' := 0) rfl rfl ?_
    refine V_if_eq 15 8 rfl dX8_takeSign_5 rfl (fun c5 => absurd c5 (by decide)) (fun c5 => ?_)
    refine V_aload_n 9 0 rfl _ rfl rfl dX8_takeSign_8 rfl ?_
    refine V_callV (K' := 0) (S' := 0) 12 1 8 0 [] mkX8_next lkX8_40 (by decide) rfl rfl (by decide) rfl (Nat.le_of_ble_eq_true rfl) (Nat.le_of_ble_eq_true rfl) (Nat.le_of_ble_eq_true rfl) (Nat.le_of_ble_eq_true rfl) rfl rfl dX8_takeSign_9 rfl (c_X8_next hRK hT (enF_z hp).2.1 ?_)
    refine Kq_v (k' := 0) (sl' := 0) rfl rfl ?_
    refine V_goto 20 rfl dX8_takeSign_12 ?_
    refine V_ret_v rfl (Nat.le_of_ble_eq_true rfl) (fun h => absurd h (by decide)) (Nat.le_of_ble_eq_true rfl) (hk _ cs.1 (if_pos cs.2)) dX8_takeSign_20
  · refine V_aload_n 1 0 rfl _ rfl rfl dX8_takeSign_0 rfl ?_
    refine V_iload_n 2 1 rfl rfl dX8_takeSign_1 rfl ?_
    refine V_callV (K' := 0) (S' := 0) 5 1 8 1 [.int (nI c)] mkX8_isSign lkX8_62 (by decide) rfl rfl (by decide) rfl (Nat.le_of_ble_eq_true rfl) (Nat.le_of_ble_eq_true rfl) (Nat.le_of_ble_eq_true rfl) (Nat.le_of_ble_eq_true rfl) rfl rfl dX8_takeSign_2 rfl (c_X8_isSign hRK hT hc hd hl (fun e1 e2 e3 => absurd ⟨e1, e2, e3⟩ cs) (fun e1 => ?_))
    refine Kq_i (k' := 0) (sl' := 0) rfl rfl ?_
    refine V_if_eq 15 8 rfl dX8_takeSign_5 rfl (fun c5 => ?_) (fun c5 => absurd c5 (by decide))
    refine V_aload_n 16 0 rfl _ rfl rfl dX8_takeSign_15 rfl ?_
    refine V_iconst 17 (1) rfl dX8_takeSign_16 rfl ?_
    refine V_callV (K' := 0) (S' := 0) 20 1 8 1 [.int 1] mkX8_fail lkX8_66 (by decide) rfl rfl (by decide) rfl (Nat.le_of_ble_eq_true rfl) (Nat.le_of_ble_eq_true rfl) (Nat.le_of_ble_eq_true rfl) (Nat.le_of_ble_eq_true rfl) rfl rfl dX8_takeSign_17 rfl (c_X8_fail (k := 1) hRK hT (fun e => ?_) (fun e => ?_))
    · refine Kq_v (k' := 0) (sl' := 0) rfl rfl ?_
      refine V_ret_v rfl (Nat.le_of_ble_eq_true rfl) (fun h => absurd h (by decide)) (Nat.le_of_ble_eq_true rfl) (h1 e) dX8_takeSign_20
    · refine Kq_v (k' := 0) (sl' := 0) rfl rfl ?_
      refine V_ret_v rfl (Nat.le_of_ble_eq_true rfl) (fun h => absurd h (by decide)) (Nat.le_of_ble_eq_true rfl) (hb e (if_neg (fun q => cs ⟨e, q⟩))) dX8_takeSign_20
set_option maxHeartbeats 4000000 in
theorem c_X8_takeNumber {G : Gx} {d : Nat} {I : FI} {R : FR} {J : FJ} {Q : Po} (hRK : RK R) {t : Nat → Nat} {z : Nat} (hT : TxC I t z) {p : Nat} {fc fp : Int32} {lo cnt : Nat} {hi : Int32} (hlo : lo < 1000) (hh : ∀ v, v ≤ 1000000 → (nI v ≤ hi ↔ v < cnt)) (hp : p ≤ z) (h1 : ¬ fc = 0 → Q (.inl (some (.int 0))) 103 (tp t z I p fc fp) R J) (hk : ∀ v p', fc = 0 → pNum t z lo cnt p = .inr (v, p') → Q (.inl (some (.int (nI v)))) 103 (tp t z I p' fc fp) R J) (hb : ∀ k, fc = 0 → pNum t z lo cnt p = .inl (k, p) → Q (.inl (some (.int 0))) 103 (tp t z I p (nI k) (nI p)) R J) : Cc G mX8_takeNumber (d + 1 + 1 + 1) 0 0 [rf G 1, .int (nI lo), .int hi] 103 (tp t z I p fc fp) R J Q := by
  have h6 := hT.2.1
  show V _ _ _ _ _ _ _ _ [(0, rf G 1), (1, .int (nI lo)), (2, .int hi)] [] _ _ _ _ _
  have hn := nuF_le t z p
  by_cases cf : fc = 0
  · by_cases cn : p < z ∧ dg (t p) = true
    · by_cases cb : lo ≤ nuF t z p ∧ nuF t z p < cnt
      · refine V_aload_n 1 0 rfl _ rfl rfl dX8_takeNumber_0 rfl ?_
        refine V_callV (K' := 0) (S' := 0) 4 1 8 0 [] mkX8_isFaulty lkX8_70 (by decide) rfl rfl (by decide) rfl (Nat.le_of_ble_eq_true rfl) (Nat.le_of_ble_eq_true rfl) (Nat.le_of_ble_eq_true rfl) (Nat.le_of_ble_eq_true rfl) rfl rfl dX8_takeNumber_1 rfl (c_X8_isFaulty (fun _ => ?_) (fun e => absurd cf e))
        refine Kq_i (k' := 0) (sl' := 0) rfl rfl ?_
        refine V_if_eq 9 7 rfl dX8_takeNumber_4 rfl (fun c4 => ?_) (fun c4 => absurd c4 (by decide))
        refine V_aload_n 10 0 rfl _ rfl rfl dX8_takeNumber_9 rfl ?_
        refine V_getI 13 1 8 5 1 (show nI (kdF t z p) = 1 by unfold kdF; rw [if_neg (Nat.not_le.mpr cn.1), if_pos cn.2]; rfl) flX8_49 rfl rfl rfl (by decide) dX8_takeNumber_10 rfl ?_
        refine V_iconst 14 (1) rfl dX8_takeNumber_13 rfl ?_
        refine V_icmp_eq 24 17 rfl dX8_takeNumber_14 rfl (fun c14 => ?_) (fun c14 => absurd rfl c14)
        refine V_aload_n 25 0 rfl _ rfl rfl dX8_takeNumber_24 rfl ?_
        refine V_getI 28 1 8 6 (nI (nuF t z p)) rfl flX8_46 rfl rfl rfl (by decide) dX8_takeNumber_25 rfl ?_
        refine V_iload_n 29 1 rfl rfl dX8_takeNumber_28 rfl ?_
        refine V_icmp_lt 40 32 rfl dX8_takeNumber_29 rfl (fun c29 => absurd c29 (nI_nlt cb.1 (by omega))) (fun c29 => ?_)
        refine V_aload_n 33 0 rfl _ rfl rfl dX8_takeNumber_32 rfl ?_
        refine V_getI 36 1 8 6 (nI (nuF t z p)) rfl flX8_46 rfl rfl rfl (by decide) dX8_takeNumber_33 rfl ?_
        refine V_iload_n 37 2 rfl rfl dX8_takeNumber_36 rfl ?_
        refine V_icmp_le 47 40 rfl dX8_takeNumber_37 rfl (fun c37 => ?_) (fun c37 => absurd ((hh _ hn).mpr cb.2) c37)
        refine V_aload_n 48 0 rfl _ rfl rfl dX8_takeNumber_47 rfl ?_
        refine V_getI 51 1 8 6 (nI (nuF t z p)) rfl flX8_46 rfl rfl rfl (by decide) dX8_takeNumber_48 rfl ?_
        refine V_istore_n 52 [(3, .int (nI (nuF t z p))), (0, rf G 1), (1, .int (nI lo)), (2, .int hi)] (by decide) rfl rfl dX8_takeNumber_51 rfl ?_
        refine V_aload_n 53 1 rfl _ rfl rfl dX8_takeNumber_52 rfl ?_
        refine V_callV (K' := 0) (S' := 0) 56 1 8 0 [] mkX8_next lkX8_40 (by decide) rfl rfl (by decide) rfl (Nat.le_of_ble_eq_true rfl) (Nat.le_of_ble_eq_true rfl) (Nat.le_of_ble_eq_true rfl) (Nat.le_of_ble_eq_true rfl) rfl rfl dX8_takeNumber_53 rfl (c_X8_next hRK hT (enF_z hp).2.1 ?_)
        refine Kq_v (k' := 0) (sl' := 0) rfl rfl ?_
        refine V_iload_n 57 0 rfl rfl dX8_takeNumber_56 rfl ?_
        refine V_ret_i rfl rfl (Nat.le_of_ble_eq_true rfl) (fun h => absurd h (by decide)) (Nat.le_of_ble_eq_true rfl) (hk _ _ cf (by unfold pNum; rw [if_pos cn, if_pos cb]; rfl)) dX8_takeNumber_57
      · refine V_aload_n 1 0 rfl _ rfl rfl dX8_takeNumber_0 rfl ?_
        refine V_callV (K' := 0) (S' := 0) 4 1 8 0 [] mkX8_isFaulty lkX8_70 (by decide) rfl rfl (by decide) rfl (Nat.le_of_ble_eq_true rfl) (Nat.le_of_ble_eq_true rfl) (Nat.le_of_ble_eq_true rfl) (Nat.le_of_ble_eq_true rfl) rfl rfl dX8_takeNumber_1 rfl (c_X8_isFaulty (fun _ => ?_) (fun e => absurd cf e))
        refine Kq_i (k' := 0) (sl' := 0) rfl rfl ?_
        refine V_if_eq 9 7 rfl dX8_takeNumber_4 rfl (fun c4 => ?_) (fun c4 => absurd c4 (by decide))
        refine V_aload_n 10 0 rfl _ rfl rfl dX8_takeNumber_9 rfl ?_
        refine V_getI 13 1 8 5 1 (show nI (kdF t z p) = 1 by unfold kdF; rw [if_neg (Nat.not_le.mpr cn.1), if_pos cn.2]; rfl) flX8_49 rfl rfl rfl (by decide) dX8_takeNumber_10 rfl ?_
        refine V_iconst 14 (1) rfl dX8_takeNumber_13 rfl ?_
        refine V_icmp_eq 24 17 rfl dX8_takeNumber_14 rfl (fun c14 => ?_) (fun c14 => absurd rfl c14)
        refine V_aload_n 25 0 rfl _ rfl rfl dX8_takeNumber_24 rfl ?_
        refine V_getI 28 1 8 6 (nI (nuF t z p)) rfl flX8_46 rfl rfl rfl (by decide) dX8_takeNumber_25 rfl ?_
        refine V_iload_n 29 1 rfl rfl dX8_takeNumber_28 rfl ?_
        refine V_icmp_lt 40 32 rfl dX8_takeNumber_29 rfl (fun c29 => ?_) (fun c29 => ?_)
        · refine V_aload_n 41 0 rfl _ rfl rfl dX8_takeNumber_40 rfl ?_
          refine V_iconst 42 (2) rfl dX8_takeNumber_41 rfl ?_
          refine V_callV (K' := 0) (S' := 0) 45 1 8 1 [.int 2] mkX8_fail lkX8_66 (by decide) rfl rfl (by decide) rfl (Nat.le_of_ble_eq_true rfl) (Nat.le_of_ble_eq_true rfl) (Nat.le_of_ble_eq_true rfl) (Nat.le_of_ble_eq_true rfl) rfl rfl dX8_takeNumber_42 rfl (c_X8_fail (k := 2) hRK hT (fun e => absurd cf e) (fun _ => ?_))
          refine Kq_v (k' := 0) (sl' := 0) rfl rfl ?_
          refine V_iconst 46 (0) rfl dX8_takeNumber_45 rfl ?_
          refine V_ret_i rfl rfl (Nat.le_of_ble_eq_true rfl) (fun h => absurd h (by decide)) (Nat.le_of_ble_eq_true rfl) (hb 2 cf (by unfold pNum; rw [if_pos cn, if_neg cb])) dX8_takeNumber_46
        · refine V_aload_n 33 0 rfl _ rfl rfl dX8_takeNumber_32 rfl ?_
          refine V_getI 36 1 8 6 (nI (nuF t z p)) rfl flX8_46 rfl rfl rfl (by decide) dX8_takeNumber_33 rfl ?_
          refine V_iload_n 37 2 rfl rfl dX8_takeNumber_36 rfl ?_
          refine V_icmp_le 47 40 rfl dX8_takeNumber_37 rfl (fun c37 => ?_) (fun c37 => ?_)
          · exact absurd ⟨(nI_leI (by omega) (by omega)).mp (Int32.not_lt.mp c29), (hh _ hn).mp c37⟩ cb
          · refine V_aload_n 41 0 rfl _ rfl rfl dX8_takeNumber_40 rfl ?_
            refine V_iconst 42 (2) rfl dX8_takeNumber_41 rfl ?_
            refine V_callV (K' := 0) (S' := 0) 45 1 8 1 [.int 2] mkX8_fail lkX8_66 (by decide) rfl rfl (by decide) rfl (Nat.le_of_ble_eq_true rfl) (Nat.le_of_ble_eq_true rfl) (Nat.le_of_ble_eq_true rfl) (Nat.le_of_ble_eq_true rfl) rfl rfl dX8_takeNumber_42 rfl (c_X8_fail (k := 2) hRK hT (fun e => absurd cf e) (fun _ => ?_))
            refine Kq_v (k' := 0) (sl' := 0) rfl rfl ?_
            refine V_iconst 46 (0) rfl dX8_takeNumber_45 rfl ?_
            refine V_ret_i rfl rfl (Nat.le_of_ble_eq_true rfl) (fun h => absurd h (by decide)) (Nat.le_of_ble_eq_true rfl) (hb 2 cf (by unfold pNum; rw [if_pos cn, if_neg cb])) dX8_takeNumber_46
    · have kne : ¬ nI (kdF t z p) = 1 := by
        unfold kdF
        split
        · decide
        · split
          · exact absurd ⟨by omega, by assumption⟩ cn
          · split <;> decide
      refine V_aload_n 1 0 rfl _ rfl rfl dX8_takeNumber_0 rfl ?_
      refine V_callV (K' := 0) (S' := 0) 4 1 8 0 [] mkX8_isFaulty lkX8_70 (by decide) rfl rfl (by decide) rfl (Nat.le_of_ble_eq_true rfl) (Nat.le_of_ble_eq_true rfl) (Nat.le_of_ble_eq_true rfl) (Nat.le_of_ble_eq_true rfl) rfl rfl dX8_takeNumber_1 rfl (c_X8_isFaulty (fun _ => ?_) (fun e => absurd cf e))
      refine Kq_i (k' := 0) (sl' := 0) rfl rfl ?_
      refine V_if_eq 9 7 rfl dX8_takeNumber_4 rfl (fun c4 => ?_) (fun c4 => absurd c4 (by decide))
      refine V_aload_n 10 0 rfl _ rfl rfl dX8_takeNumber_9 rfl ?_
      refine V_getI 13 1 8 5 (nI (kdF t z p)) rfl flX8_49 rfl rfl rfl (by decide) dX8_takeNumber_10 rfl ?_
      refine V_iconst 14 (1) rfl dX8_takeNumber_13 rfl ?_
      refine V_icmp_eq 24 17 rfl dX8_takeNumber_14 rfl (fun c14 => absurd c14 kne) (fun c14 => ?_)
      refine V_aload_n 18 0 rfl _ rfl rfl dX8_takeNumber_17 rfl ?_
      refine V_iconst 19 (1) rfl dX8_takeNumber_18 rfl ?_
      refine V_callV (K' := 0) (S' := 0) 22 1 8 1 [.int 1] mkX8_fail lkX8_66 (by decide) rfl rfl (by decide) rfl (Nat.le_of_ble_eq_true rfl) (Nat.le_of_ble_eq_true rfl) (Nat.le_of_ble_eq_true rfl) (Nat.le_of_ble_eq_true rfl) rfl rfl dX8_takeNumber_19 rfl (c_X8_fail (k := 1) hRK hT (fun e => absurd cf e) (fun _ => ?_))
      refine Kq_v (k' := 0) (sl' := 0) rfl rfl ?_
      refine V_iconst 23 (0) rfl dX8_takeNumber_22 rfl ?_
      refine V_ret_i rfl rfl (Nat.le_of_ble_eq_true rfl) (fun h => absurd h (by decide)) (Nat.le_of_ble_eq_true rfl) (hb 1 cf (if_neg cn)) dX8_takeNumber_23
  · refine V_aload_n 1 0 rfl _ rfl rfl dX8_takeNumber_0 rfl ?_
    refine V_callV (K' := 0) (S' := 0) 4 1 8 0 [] mkX8_isFaulty lkX8_70 (by decide) rfl rfl (by decide) rfl (Nat.le_of_ble_eq_true rfl) (Nat.le_of_ble_eq_true rfl) (Nat.le_of_ble_eq_true rfl) (Nat.le_of_ble_eq_true rfl) rfl rfl dX8_takeNumber_1 rfl (c_X8_isFaulty (fun e => absurd e cf) (fun _ => ?_))
    refine Kq_i (k' := 0) (sl' := 0) rfl rfl ?_
    refine V_if_eq 9 7 rfl dX8_takeNumber_4 rfl (fun c4 => absurd c4 (by decide)) (fun c4 => ?_)
    refine V_iconst 8 (0) rfl dX8_takeNumber_7 rfl ?_
    refine V_ret_i rfl rfl (Nat.le_of_ble_eq_true rfl) (fun h => absurd h (by decide)) (Nat.le_of_ble_eq_true rfl) (h1 cf) dX8_takeNumber_8
