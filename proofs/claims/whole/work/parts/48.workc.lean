/-! ===== WORK's text, as the class reads it ===== -/
def MtC (I : FI) (i : Nat) (s : Nat × Nat × Nat × Nat) : Prop := I 35 i = nI s.1 ∧ (s.1 ≠ 6 → I 36 i = nI s.2.1) ∧ (s.1 = 0 ∨ s.1 = 2 → I 37 i = nI s.2.2.1) ∧ I 38 i = nI s.2.2.2
def StR (I : FI) (n n' : Nat) (S : SR) : Prop := ∀ i, n ≤ i → i < n' → MtC I i (S i)
def EW (I I' : FI) (n : Nat) : Prop := ∀ i, i < n → I' 35 i = I 35 i ∧ I' 36 i = I 36 i ∧ I' 37 i = I 37 i ∧ I' 38 i = I 38 i
def FrW (I I' : FI) : Prop := ∀ a, (a < 34 ∨ 38 < a) → I' a = I a
theorem FrW.rf {I : FI} : FrW I I := fun _ _ => rfl
theorem FrW.tr {I I1 I2 : FI} (h : FrW I I1) (h2 : FrW I1 I2) : FrW I I2 := fun a ha => (h2 a ha).trans (h a ha)
theorem FrW.u {I I' : FI} {a j : Nat} {v : Int32} (h : FrW I I') (ha : 34 ≤ a ∧ a ≤ 38) : FrW I (up2 I' a j v) := fun b hb => by rw [up2_n _ _ _ (by omega)]; exact h b hb
theorem FrW.T {I I' : FI} {t : Nat → Nat} {z : Nat} (h : FrW I I') (hT : TxC I t z) : TxC I' t z := hT.fr (h 1 (by decide)) (h 2 (by decide))
theorem FrW.C {I I' : FI} {c : Nat} {K : CO} (h : FrW I I') (hc : c = 4 ∨ c = 51) (hC : CoastC I c K) : CoastC I' c K := hC.fr (fun a q1 q2 => h a (by omega))
theorem EW.rf {I : FI} {n : Nat} : EW I I n := fun _ _ => ⟨rfl, rfl, rfl, rfl⟩
theorem EW.tr {I I1 I2 : FI} {n n1 : Nat} (h : EW I I1 n) (h2 : EW I1 I2 n1) (hn : n ≤ n1) : EW I I2 n := fun i hi => by
  obtain ⟨a1, a2, a3, a4⟩ := h i hi
  obtain ⟨b1, b2, b3, b4⟩ := h2 i (by omega)
  exact ⟨b1.trans a1, b2.trans a2, b3.trans a3, b4.trans a4⟩
theorem EW.u {I I' : FI} {n a j : Nat} {v : Int32} (h : EW I I' n) (hj : a = 34 ∨ n ≤ j) : EW I (up2 I' a j v) n := fun i hi => by
  obtain ⟨a1, a2, a3, a4⟩ := h i hi
  have e : ∀ b, b ≠ 34 → up2 I' a j v b i = I' b i := fun b hb => by
    by_cases q : b = a
    · subst q; rw [up2_s, upd_n (by omega)]
    · rw [up2_n _ _ _ q]
  exact ⟨(e 35 (by decide)).trans a1, (e 36 (by decide)).trans a2, (e 37 (by decide)).trans a3, (e 38 (by decide)).trans a4⟩
theorem MtC.cg {I I' : FI} {i : Nat} {s : Nat × Nat × Nat × Nat} (h : MtC I i s) (e : I' 35 i = I 35 i ∧ I' 36 i = I 36 i ∧ I' 37 i = I 37 i ∧ I' 38 i = I 38 i) : MtC I' i s := by
  unfold MtC; rw [e.1, e.2.1, e.2.2.1, e.2.2.2]; exact h
theorem StR.join {I1 I2 : FI} {n n1 n2 : Nat} {S1 S2 : SR} (h1 : StR I1 n n1 S1) (h2 : StR I2 n1 n2 S2) (hE : EW I1 I2 n1) (hS : ∀ i, i < n1 → S2 i = S1 i) : StR I2 n n2 S2 := fun i a b => by
  by_cases c : i < n1
  · rw [hS i c]; exact (h1 i a c).cg (hE i c)
  · exact h2 i (by omega) b
set_option maxHeartbeats 4000000 in
theorem c_X9_stepOf {G : Gx} {d : Nat} {I : FI} {R : FR} {J : FJ} {Q : Po} (hRK : RK R) {t : Nat → Nat} {z : Nat} (hT : TxC I t z) {p : Nat} {fc fp : Int32} (hp : p ≤ z) (hq : Q (.inl (some (.int (oI (kwF t z p))))) 103 (tp t z I p fc fp) R J) : Cc G mX9_stepOf (d + 1 + 1 + 1 + 1 + 1) 0 0 [rf G 1] 103 (tp t z I p fc fp) R J Q := by
  show V _ _ _ _ _ _ _ _ [(0, rf G 1)] [] _ _ _ _ _
  refine V_aload_n 1 0 rfl _ rfl rfl dX9_stepOf_0 rfl ?_
  refine V_ldcS 3 15 rfl rfl dX9_stepOf_1 rfl ?_
  refine V_callV (K' := 0) (S' := 0) 6 1 8 1 [sr G 15] mkX8_isWord lkX9_83 (by decide) rfl rfl (by decide) rfl (Nat.le_of_ble_eq_true rfl) (Nat.le_of_ble_eq_true rfl) (Nat.le_of_ble_eq_true rfl) (Nat.le_of_ble_eq_true rfl) rfl rfl dX9_stepOf_3 rfl (c_X8_isWd hRK hT hp (wdo 15 (by decide) (by decide) (by decide)) (fun w3 => ?_) (fun w3 => ?_))
  · refine Kq_i (k' := 0) (sl' := 0) rfl rfl ?_
    refine V_if_eq 11 9 rfl dX9_stepOf_6 rfl (fun c6 => absurd c6 (by decide)) (fun c6 => ?_)
    refine V_iconst 10 (0) rfl dX9_stepOf_9 rfl ?_
    refine V_ret_i rfl rfl (Nat.le_of_ble_eq_true rfl) (fun h => absurd h (by decide)) (Nat.le_of_ble_eq_true rfl) (by rw [kwF, if_pos w3] at hq; exact hq) dX9_stepOf_10
  · refine Kq_i (k' := 0) (sl' := 0) rfl rfl ?_
    refine V_if_eq 11 9 rfl dX9_stepOf_6 rfl (fun c6 => ?_) (fun c6 => absurd c6 (by decide))
    refine V_aload_n 12 0 rfl _ rfl rfl dX9_stepOf_11 rfl ?_
    refine V_ldcS 14 16 rfl rfl dX9_stepOf_12 rfl ?_
    refine V_callV (K' := 0) (S' := 0) 17 1 8 1 [sr G 16] mkX8_isWord lkX9_83 (by decide) rfl rfl (by decide) rfl (Nat.le_of_ble_eq_true rfl) (Nat.le_of_ble_eq_true rfl) (Nat.le_of_ble_eq_true rfl) (Nat.le_of_ble_eq_true rfl) rfl rfl dX9_stepOf_14 rfl (c_X8_isWd hRK hT hp (wdo 16 (by decide) (by decide) (by decide)) (fun w14 => ?_) (fun w14 => ?_))
    · refine Kq_i (k' := 0) (sl' := 0) rfl rfl ?_
      refine V_if_eq 22 20 rfl dX9_stepOf_17 rfl (fun c17 => absurd c17 (by decide)) (fun c17 => ?_)
      refine V_iconst 21 (1) rfl dX9_stepOf_20 rfl ?_
      refine V_ret_i rfl rfl (Nat.le_of_ble_eq_true rfl) (fun h => absurd h (by decide)) (Nat.le_of_ble_eq_true rfl) (by rw [kwF, if_neg w3, if_pos w14] at hq; exact hq) dX9_stepOf_21
    · refine Kq_i (k' := 0) (sl' := 0) rfl rfl ?_
      refine V_if_eq 22 20 rfl dX9_stepOf_17 rfl (fun c17 => ?_) (fun c17 => absurd c17 (by decide))
      refine V_aload_n 23 0 rfl _ rfl rfl dX9_stepOf_22 rfl ?_
      refine V_ldcS 25 17 rfl rfl dX9_stepOf_23 rfl ?_
      refine V_callV (K' := 0) (S' := 0) 28 1 8 1 [sr G 17] mkX8_isWord lkX9_83 (by decide) rfl rfl (by decide) rfl (Nat.le_of_ble_eq_true rfl) (Nat.le_of_ble_eq_true rfl) (Nat.le_of_ble_eq_true rfl) (Nat.le_of_ble_eq_true rfl) rfl rfl dX9_stepOf_25 rfl (c_X8_isWd hRK hT hp (wdo 17 (by decide) (by decide) (by decide)) (fun w25 => ?_) (fun w25 => ?_))
      · refine Kq_i (k' := 0) (sl' := 0) rfl rfl ?_
        refine V_if_eq 33 31 rfl dX9_stepOf_28 rfl (fun c28 => absurd c28 (by decide)) (fun c28 => ?_)
        refine V_iconst 32 (2) rfl dX9_stepOf_31 rfl ?_
        refine V_ret_i rfl rfl (Nat.le_of_ble_eq_true rfl) (fun h => absurd h (by decide)) (Nat.le_of_ble_eq_true rfl) (by rw [kwF, if_neg w3, if_neg w14, if_pos w25] at hq; exact hq) dX9_stepOf_32
      · refine Kq_i (k' := 0) (sl' := 0) rfl rfl ?_
        refine V_if_eq 33 31 rfl dX9_stepOf_28 rfl (fun c28 => ?_) (fun c28 => absurd c28 (by decide))
        refine V_aload_n 34 0 rfl _ rfl rfl dX9_stepOf_33 rfl ?_
        refine V_ldcS 36 18 rfl rfl dX9_stepOf_34 rfl ?_
        refine V_callV (K' := 0) (S' := 0) 39 1 8 1 [sr G 18] mkX8_isWord lkX9_83 (by decide) rfl rfl (by decide) rfl (Nat.le_of_ble_eq_true rfl) (Nat.le_of_ble_eq_true rfl) (Nat.le_of_ble_eq_true rfl) (Nat.le_of_ble_eq_true rfl) rfl rfl dX9_stepOf_36 rfl (c_X8_isWd hRK hT hp (wdo 18 (by decide) (by decide) (by decide)) (fun w36 => ?_) (fun w36 => ?_))
        · refine Kq_i (k' := 0) (sl' := 0) rfl rfl ?_
          refine V_if_eq 44 42 rfl dX9_stepOf_39 rfl (fun c39 => absurd c39 (by decide)) (fun c39 => ?_)
          refine V_iconst 43 (3) rfl dX9_stepOf_42 rfl ?_
          refine V_ret_i rfl rfl (Nat.le_of_ble_eq_true rfl) (fun h => absurd h (by decide)) (Nat.le_of_ble_eq_true rfl) (by rw [kwF, if_neg w3, if_neg w14, if_neg w25, if_pos w36] at hq; exact hq) dX9_stepOf_43
        · refine Kq_i (k' := 0) (sl' := 0) rfl rfl ?_
          refine V_if_eq 44 42 rfl dX9_stepOf_39 rfl (fun c39 => ?_) (fun c39 => absurd c39 (by decide))
          refine V_aload_n 45 0 rfl _ rfl rfl dX9_stepOf_44 rfl ?_
          refine V_ldcS 47 19 rfl rfl dX9_stepOf_45 rfl ?_
          refine V_callV (K' := 0) (S' := 0) 50 1 8 1 [sr G 19] mkX8_isWord lkX9_83 (by decide) rfl rfl (by decide) rfl (Nat.le_of_ble_eq_true rfl) (Nat.le_of_ble_eq_true rfl) (Nat.le_of_ble_eq_true rfl) (Nat.le_of_ble_eq_true rfl) rfl rfl dX9_stepOf_47 rfl (c_X8_isWd hRK hT hp (wdo 19 (by decide) (by decide) (by decide)) (fun w47 => ?_) (fun w47 => ?_))
          · refine Kq_i (k' := 0) (sl' := 0) rfl rfl ?_
            refine V_if_eq 55 53 rfl dX9_stepOf_50 rfl (fun c50 => absurd c50 (by decide)) (fun c50 => ?_)
            refine V_iconst 54 (4) rfl dX9_stepOf_53 rfl ?_
            refine V_ret_i rfl rfl (Nat.le_of_ble_eq_true rfl) (fun h => absurd h (by decide)) (Nat.le_of_ble_eq_true rfl) (by rw [kwF, if_neg w3, if_neg w14, if_neg w25, if_neg w36, if_pos w47] at hq; exact hq) dX9_stepOf_54
          · refine Kq_i (k' := 0) (sl' := 0) rfl rfl ?_
            refine V_if_eq 55 53 rfl dX9_stepOf_50 rfl (fun c50 => ?_) (fun c50 => absurd c50 (by decide))
            refine V_aload_n 56 0 rfl _ rfl rfl dX9_stepOf_55 rfl ?_
            refine V_ldcS 58 20 rfl rfl dX9_stepOf_56 rfl ?_
            refine V_callV (K' := 0) (S' := 0) 61 1 8 1 [sr G 20] mkX8_isWord lkX9_83 (by decide) rfl rfl (by decide) rfl (Nat.le_of_ble_eq_true rfl) (Nat.le_of_ble_eq_true rfl) (Nat.le_of_ble_eq_true rfl) (Nat.le_of_ble_eq_true rfl) rfl rfl dX9_stepOf_58 rfl (c_X8_isWd hRK hT hp (wdo 20 (by decide) (by decide) (by decide)) (fun w58 => ?_) (fun w58 => ?_))
            · refine Kq_i (k' := 0) (sl' := 0) rfl rfl ?_
              refine V_if_eq 66 64 rfl dX9_stepOf_61 rfl (fun c61 => absurd c61 (by decide)) (fun c61 => ?_)
              refine V_iconst 65 (5) rfl dX9_stepOf_64 rfl ?_
              refine V_ret_i rfl rfl (Nat.le_of_ble_eq_true rfl) (fun h => absurd h (by decide)) (Nat.le_of_ble_eq_true rfl) (by rw [kwF, if_neg w3, if_neg w14, if_neg w25, if_neg w36, if_neg w47, if_pos w58] at hq; exact hq) dX9_stepOf_65
            · refine Kq_i (k' := 0) (sl' := 0) rfl rfl ?_
              refine V_if_eq 66 64 rfl dX9_stepOf_61 rfl (fun c61 => ?_) (fun c61 => absurd c61 (by decide))
              refine V_aload_n 67 0 rfl _ rfl rfl dX9_stepOf_66 rfl ?_
              refine V_ldcS 69 21 rfl rfl dX9_stepOf_67 rfl ?_
              refine V_callV (K' := 0) (S' := 0) 72 1 8 1 [sr G 21] mkX8_isWord lkX9_83 (by decide) rfl rfl (by decide) rfl (Nat.le_of_ble_eq_true rfl) (Nat.le_of_ble_eq_true rfl) (Nat.le_of_ble_eq_true rfl) (Nat.le_of_ble_eq_true rfl) rfl rfl dX9_stepOf_69 rfl (c_X8_isWd hRK hT hp (wdo 21 (by decide) (by decide) (by decide)) (fun w69 => ?_) (fun w69 => ?_))
              · refine Kq_i (k' := 0) (sl' := 0) rfl rfl ?_
                refine V_if_eq 78 75 rfl dX9_stepOf_72 rfl (fun c72 => absurd c72 (by decide)) (fun c72 => ?_)
                refine V_bipush 77 (6) rfl dX9_stepOf_75 rfl ?_
                refine V_ret_i rfl rfl (Nat.le_of_ble_eq_true rfl) (fun h => absurd h (by decide)) (Nat.le_of_ble_eq_true rfl) (by rw [kwF, if_neg w3, if_neg w14, if_neg w25, if_neg w36, if_neg w47, if_neg w58, if_pos w69] at hq; exact hq) dX9_stepOf_77
              · refine Kq_i (k' := 0) (sl' := 0) rfl rfl ?_
                refine V_if_eq 78 75 rfl dX9_stepOf_72 rfl (fun c72 => ?_) (fun c72 => absurd c72 (by decide))
                refine V_aload_n 79 0 rfl _ rfl rfl dX9_stepOf_78 rfl ?_
                refine V_ldcS 81 22 rfl rfl dX9_stepOf_79 rfl ?_
                refine V_callV (K' := 0) (S' := 0) 84 1 8 1 [sr G 22] mkX8_isWord lkX9_83 (by decide) rfl rfl (by decide) rfl (Nat.le_of_ble_eq_true rfl) (Nat.le_of_ble_eq_true rfl) (Nat.le_of_ble_eq_true rfl) (Nat.le_of_ble_eq_true rfl) rfl rfl dX9_stepOf_81 rfl (c_X8_isWd hRK hT hp (wdo 22 (by decide) (by decide) (by decide)) (fun w81 => ?_) (fun w81 => ?_))
                · refine Kq_i (k' := 0) (sl' := 0) rfl rfl ?_
                  refine V_if_eq 92 87 rfl dX9_stepOf_84 rfl (fun c84 => absurd c84 (by decide)) (fun c84 => ?_)
                  refine V_bipush 89 (7) rfl dX9_stepOf_87 rfl ?_
                  refine V_goto 93 rfl dX9_stepOf_89 ?_
                  refine V_ret_i rfl rfl (Nat.le_of_ble_eq_true rfl) (fun h => absurd h (by decide)) (Nat.le_of_ble_eq_true rfl) (by rw [kwF, if_neg w3, if_neg w14, if_neg w25, if_neg w36, if_neg w47, if_neg w58, if_neg w69, if_pos w81] at hq; exact hq) dX9_stepOf_93
                · refine Kq_i (k' := 0) (sl' := 0) rfl rfl ?_
                  refine V_if_eq 92 87 rfl dX9_stepOf_84 rfl (fun c84 => ?_) (fun c84 => absurd c84 (by decide))
                  refine V_iconst 93 (-1) rfl dX9_stepOf_92 rfl ?_
                  refine V_ret_i rfl rfl (Nat.le_of_ble_eq_true rfl) (fun h => absurd h (by decide)) (Nat.le_of_ble_eq_true rfl) (by rw [kwF, if_neg w3, if_neg w14, if_neg w25, if_neg w36, if_neg w47, if_neg w58, if_neg w69, if_neg w81] at hq; exact hq) dX9_stepOf_93
def FrO2 (I I' : FI) (n : Nat) : Prop := (∀ a, a ≠ 36 → a ≠ 37 → I' a = I a) ∧ ∀ j, j ≠ n → I' 36 j = I 36 j ∧ I' 37 j = I 37 j
theorem FrO2.rf {I : FI} {n : Nat} : FrO2 I I n := ⟨fun _ _ _ => rfl, fun _ _ => ⟨rfl, rfl⟩⟩
theorem FrO2.u {I I' : FI} {n a : Nat} {v : Int32} (h : FrO2 I I' n) (ha : a = 36 ∨ a = 37) : FrO2 I (up2 I' a n v) n := by
  refine ⟨fun b q1 q2 => ?_, fun j hj => ?_⟩
  · rw [up2_n _ _ _ (by omega)]; exact h.1 b q1 q2
  · obtain ⟨a1, a2⟩ := h.2 j hj
    have e : ∀ b, up2 I' a n v b j = I' b j := fun b => by
      by_cases q : b = a
      · subst q; rw [up2_s, upd_n hj]
      · rw [up2_n _ _ _ q]
    exact ⟨(e 36).trans a1, (e 37).trans a2⟩
set_option maxHeartbeats 8000000 in
theorem c_X9_readOperands {G : Gx} {d : Nat} {I : FI} {R : FR} {J : FJ} {Q : Po} (hRK : RK R) {t : Nat → Nat} {z : Nat} (hT : TxC I t z) {c : Nat} (hc : c = 4 ∨ c = 51) {K : CO} (hC : CoastC I c K) (hW : WK K) {p n k : Nat} {fp : Int32} (hp : p ≤ z) (hn : n < 31) (hk6 : k ≤ 6) (hkd : I 35 n = nI k) (hk : ∀ a b p' I', pOps t z K k p = .inr ((a, b), p') → (k ≠ 6 → I' 36 n = nI a) → (k = 0 ∨ k = 2 → I' 37 n = nI b) → FrO2 I I' n → p' ≤ z → Q (.inl none) 103 (tp t z I' p' 0 fp) R J) (hb : ∀ kd q p' I', pOps t z K k p = .inl (kd, q) → 0 < kd → kd ≤ 3 → q ≤ z → FrO2 I I' n → p' ≤ z → Q (.inl none) 103 (tp t z I' p' (nI kd) (nI q)) R J) : Cc G mX9_readOperands (d + 1 + 1 + 1 + 1) 0 0 [rf G 34, rf G 1, rf G c, .int (nI n)] 103 (tp t z I p 0 fp) R J Q := by
  have h8 := hW.1
  have hg6 := hW.2.1
  have h6 := hW.2.2.1
  rcases (show k = 0 ∨ k = 1 ∨ k = 2 ∨ k = 3 ∨ k = 4 ∨ k = 5 ∨ k = 6 by omega) with rfl | rfl | rfl | rfl | rfl | rfl | rfl
  · show V _ _ _ _ _ _ _ _ [(0, rf G 34), (1, rf G 1), (2, rf G c), (3, .int (nI n))] [] _ _ _ _ _
    refine V_aload_n 1 0 rfl _ rfl rfl dX9_readOperands_0 rfl ?_
    refine V_getR 4 34 9 0 35 (hRK 34 0 (by decide) (by decide) (by decide)) flX9_11 rfl rfl rfl (by decide) dX9_readOperands_1 rfl ?_
    refine V_iload_n 5 3 rfl rfl dX9_readOperands_4 rfl ?_
    refine V_ialdN 6 35 31 n 0 (show tp t z _ _ _ _ 35 n = _ from by rw [tp_n (by decide)]; exact hkd) (by omega) (by decide) rfl (by decide) dX9_readOperands_5 rfl ?_
    refine V_istore 8 [(4, .int 0), (0, rf G 34), (1, rf G 1), (2, rf G c), (3, .int (nI n))] (by decide) rfl dX9_readOperands_6 rfl ?_
    refine V_iload 10 0 rfl dX9_readOperands_8 rfl ?_
    refine V_iconst 11 (4) rfl dX9_readOperands_10 rfl ?_
    refine V_icmp_ne 34 14 rfl dX9_readOperands_11 rfl (fun c11 => ?_) (fun c11 => absurd c11 (by decide))
    refine V_iload 36 0 rfl dX9_readOperands_34 rfl ?_
    refine V_bipush 38 (6) rfl dX9_readOperands_36 rfl ?_
    refine V_icmp_eq 58 41 rfl dX9_readOperands_38 rfl (fun c38 => absurd c38 (by decide)) (fun c38 => ?_)
    refine V_aload_n 42 1 rfl _ rfl rfl dX9_readOperands_41 rfl ?_
    refine V_getR 45 34 9 1 36 (hRK 34 1 (by decide) (by decide) (by decide)) flX9_15 rfl rfl rfl (by decide) dX9_readOperands_42 rfl ?_
    refine V_iload_n 46 4 rfl rfl dX9_readOperands_45 rfl ?_
    refine V_aload_n 47 2 rfl _ rfl rfl dX9_readOperands_46 rfl ?_
    refine V_iconst 48 (0) rfl dX9_readOperands_47 rfl ?_
    refine V_aload_n 49 3 rfl _ rfl rfl dX9_readOperands_48 rfl ?_
    refine V_getI 52 c 2 8 (nI (cM K)) (show tp t z _ _ _ _ c 8 = _ from by rw [tp_n (by omega)]; exact hC.2.2.1) flX9_75 rfl (ly_c hc).1 rfl (by omega) dX9_readOperands_49 rfl ?_
    refine V_iconst 53 (1) rfl dX9_readOperands_52 rfl ?_
    refine V_isub 54 dX9_readOperands_53 rfl ?_
    refine V_callV (K' := 0) (S' := 0) 57 1 8 2 [.int 0, .int ((nI (cM K)) - 1)] mkX8_takeNumber lkX9_63 (by decide) rfl rfl (by decide) rfl (Nat.le_of_ble_eq_true rfl) (Nat.le_of_ble_eq_true rfl) (Nat.le_of_ble_eq_true rfl) (Nat.le_of_ble_eq_true rfl) rfl rfl dX9_readOperands_54 rfl (c_X8_takeNumber (lo := 0) (cnt := cM K) hRK hT (by decide) (hh_m1 (cM K) (by omega)) hp (fun e => absurd rfl e) (fun v54 p54 _ e54 => ?_) (fun k54 _ e54 => ?_))
    · refine Kq_i (k' := 0) (sl' := 0) rfl rfl ?_
      obtain ⟨-, -, lo54, hi54, -, -, lt54, hp54⟩ := pNum_ok e54
      refine V_iastN 58 36 31 n (by omega) (by decide) rfl (by decide) dX9_readOperands_57 rfl ?_
      rw [tp_up (by omega)]
      refine V_iload 60 0 rfl dX9_readOperands_58 rfl ?_
      refine V_if_ne 83 63 rfl dX9_readOperands_60 rfl (fun c60 => absurd c60 (by decide)) (fun c60 => ?_)
      refine V_aload_n 64 1 rfl _ rfl rfl dX9_readOperands_63 rfl ?_
      refine V_getR 67 34 9 2 37 (hRK 34 2 (by decide) (by decide) (by decide)) flX9_18 rfl rfl rfl (by decide) dX9_readOperands_64 rfl ?_
      refine V_iload_n 68 4 rfl rfl dX9_readOperands_67 rfl ?_
      refine V_aload_n 69 2 rfl _ rfl rfl dX9_readOperands_68 rfl ?_
      refine V_iconst 70 (0) rfl dX9_readOperands_69 rfl ?_
      refine V_aload_n 71 3 rfl _ rfl rfl dX9_readOperands_70 rfl ?_
      refine V_getI 74 c 2 6 (nI (cH K)) (show tp t z _ _ _ _ c 6 = _ from by rw [tp_n (by omega), up2_n _ _ _ (by omega)]; exact hC.1) flX9_70 rfl (ly_c hc).1 rfl (by omega) dX9_readOperands_71 rfl ?_
      refine V_iconst 75 (1) rfl dX9_readOperands_74 rfl ?_
      refine V_isub 76 dX9_readOperands_75 rfl ?_
      refine V_callV (K' := 0) (S' := 0) 79 1 8 2 [.int 0, .int ((nI (cH K)) - 1)] mkX8_takeNumber lkX9_63 (by decide) rfl rfl (by decide) rfl (Nat.le_of_ble_eq_true rfl) (Nat.le_of_ble_eq_true rfl) (Nat.le_of_ble_eq_true rfl) (Nat.le_of_ble_eq_true rfl) rfl rfl dX9_readOperands_76 rfl (c_X8_takeNumber (lo := 0) (cnt := cH K) hRK (TxC.up hT (by omega) (by omega)) (by decide) (hh_m1 (cH K) (by omega)) hp54 (fun e => absurd rfl e) (fun v76 p76 _ e76 => ?_) (fun k76 _ e76 => ?_))
      · refine Kq_i (k' := 0) (sl' := 0) rfl rfl ?_
        obtain ⟨-, -, lo76, hi76, -, -, lt76, hp76⟩ := pNum_ok e76
        refine V_iastN 80 37 31 n (by omega) (by decide) rfl (by decide) dX9_readOperands_79 rfl ?_
        rw [tp_up (by omega)]
        refine V_goto 106 rfl dX9_readOperands_80 ?_
        refine V_ret_v rfl (Nat.le_of_ble_eq_true rfl) (fun h => absurd h (by decide)) (Nat.le_of_ble_eq_true rfl) (hk v54 v76 _ _ ((if_neg (by decide)).trans ((if_neg (by decide)).trans ((bd_ok e54).trans (((if_pos rfl)).trans (bd_ok e76))))) (fun _ => by rw [up2_n _ _ _ (by decide), up2_s]; exact upd_s) (fun _ => by rw [up2_s]; exact upd_s) (FrO2.u (FrO2.u FrO2.rf (by decide)) (by decide)) hp76) dX9_readOperands_106
      · refine Kq_i (k' := 0) (sl' := 0) rfl rfl ?_
        have kk76 := pNum_k e76
        have kne76 := kd_ne kk76.1 kk76.2
        refine V_iastN 80 37 31 n (by omega) (by decide) rfl (by decide) dX9_readOperands_79 rfl ?_
        rw [tp_up (by omega)]
        refine V_goto 106 rfl dX9_readOperands_80 ?_
        refine V_ret_v rfl (Nat.le_of_ble_eq_true rfl) (fun h => absurd h (by decide)) (Nat.le_of_ble_eq_true rfl) (hb _ _ _ _ ((if_neg (by decide)).trans ((if_neg (by decide)).trans ((bd_ok e54).trans (((if_pos rfl)).trans (bd_no e76))))) kk76.1 kk76.2 hp54 (FrO2.u (FrO2.u FrO2.rf (by decide)) (by decide)) hp54) dX9_readOperands_106
    · refine Kq_i (k' := 0) (sl' := 0) rfl rfl ?_
      have kk54 := pNum_k e54
      have kne54 := kd_ne kk54.1 kk54.2
      refine V_iastN 58 36 31 n (by omega) (by decide) rfl (by decide) dX9_readOperands_57 rfl ?_
      rw [tp_up (by omega)]
      refine V_iload 60 0 rfl dX9_readOperands_58 rfl ?_
      refine V_if_ne 83 63 rfl dX9_readOperands_60 rfl (fun c60 => absurd c60 (by decide)) (fun c60 => ?_)
      refine V_aload_n 64 1 rfl _ rfl rfl dX9_readOperands_63 rfl ?_
      refine V_getR 67 34 9 2 37 (hRK 34 2 (by decide) (by decide) (by decide)) flX9_18 rfl rfl rfl (by decide) dX9_readOperands_64 rfl ?_
      refine V_iload_n 68 4 rfl rfl dX9_readOperands_67 rfl ?_
      refine V_aload_n 69 2 rfl _ rfl rfl dX9_readOperands_68 rfl ?_
      refine V_iconst 70 (0) rfl dX9_readOperands_69 rfl ?_
      refine V_aload_n 71 3 rfl _ rfl rfl dX9_readOperands_70 rfl ?_
      refine V_getI 74 c 2 6 (nI (cH K)) (show tp t z _ _ _ _ c 6 = _ from by rw [tp_n (by omega), up2_n _ _ _ (by omega)]; exact hC.1) flX9_70 rfl (ly_c hc).1 rfl (by omega) dX9_readOperands_71 rfl ?_
      refine V_iconst 75 (1) rfl dX9_readOperands_74 rfl ?_
      refine V_isub 76 dX9_readOperands_75 rfl ?_
      refine V_callV (K' := 0) (S' := 0) 79 1 8 2 [.int 0, .int ((nI (cH K)) - 1)] mkX8_takeNumber lkX9_63 (by decide) rfl rfl (by decide) rfl (Nat.le_of_ble_eq_true rfl) (Nat.le_of_ble_eq_true rfl) (Nat.le_of_ble_eq_true rfl) (Nat.le_of_ble_eq_true rfl) rfl rfl dX9_readOperands_76 rfl (c_X8_takeNumber (lo := 0) (cnt := cH K) hRK (TxC.up hT (by omega) (by omega)) (by decide) (hh_m1 (cH K) (by omega)) hp (fun _ => ?_) (fun _ _ e _ => absurd e kne54) (fun _ e _ => absurd e kne54))
      refine Kq_i (k' := 0) (sl' := 0) rfl rfl ?_
      refine V_iastN 80 37 31 n (by omega) (by decide) rfl (by decide) dX9_readOperands_79 rfl ?_
      rw [tp_up (by omega)]
      refine V_goto 106 rfl dX9_readOperands_80 ?_
      refine V_ret_v rfl (Nat.le_of_ble_eq_true rfl) (fun h => absurd h (by decide)) (Nat.le_of_ble_eq_true rfl) (hb _ _ _ _ ((if_neg (by decide)).trans ((if_neg (by decide)).trans (bd_no e54))) kk54.1 kk54.2 hp (FrO2.u (FrO2.u FrO2.rf (by decide)) (by decide)) hp) dX9_readOperands_106
  · show V _ _ _ _ _ _ _ _ [(0, rf G 34), (1, rf G 1), (2, rf G c), (3, .int (nI n))] [] _ _ _ _ _
    refine V_aload_n 1 0 rfl _ rfl rfl dX9_readOperands_0 rfl ?_
    refine V_getR 4 34 9 0 35 (hRK 34 0 (by decide) (by decide) (by decide)) flX9_11 rfl rfl rfl (by decide) dX9_readOperands_1 rfl ?_
    refine V_iload_n 5 3 rfl rfl dX9_readOperands_4 rfl ?_
    refine V_ialdN 6 35 31 n 1 (show tp t z _ _ _ _ 35 n = _ from by rw [tp_n (by decide)]; exact hkd) (by omega) (by decide) rfl (by decide) dX9_readOperands_5 rfl ?_
    refine V_istore 8 [(4, .int 1), (0, rf G 34), (1, rf G 1), (2, rf G c), (3, .int (nI n))] (by decide) rfl dX9_readOperands_6 rfl ?_
    refine V_iload 10 0 rfl dX9_readOperands_8 rfl ?_
    refine V_iconst 11 (4) rfl dX9_readOperands_10 rfl ?_
    refine V_icmp_ne 34 14 rfl dX9_readOperands_11 rfl (fun c11 => ?_) (fun c11 => absurd c11 (by decide))
    refine V_iload 36 0 rfl dX9_readOperands_34 rfl ?_
    refine V_bipush 38 (6) rfl dX9_readOperands_36 rfl ?_
    refine V_icmp_eq 58 41 rfl dX9_readOperands_38 rfl (fun c38 => absurd c38 (by decide)) (fun c38 => ?_)
    refine V_aload_n 42 1 rfl _ rfl rfl dX9_readOperands_41 rfl ?_
    refine V_getR 45 34 9 1 36 (hRK 34 1 (by decide) (by decide) (by decide)) flX9_15 rfl rfl rfl (by decide) dX9_readOperands_42 rfl ?_
    refine V_iload_n 46 4 rfl rfl dX9_readOperands_45 rfl ?_
    refine V_aload_n 47 2 rfl _ rfl rfl dX9_readOperands_46 rfl ?_
    refine V_iconst 48 (0) rfl dX9_readOperands_47 rfl ?_
    refine V_aload_n 49 3 rfl _ rfl rfl dX9_readOperands_48 rfl ?_
    refine V_getI 52 c 2 8 (nI (cM K)) (show tp t z _ _ _ _ c 8 = _ from by rw [tp_n (by omega)]; exact hC.2.2.1) flX9_75 rfl (ly_c hc).1 rfl (by omega) dX9_readOperands_49 rfl ?_
    refine V_iconst 53 (1) rfl dX9_readOperands_52 rfl ?_
    refine V_isub 54 dX9_readOperands_53 rfl ?_
    refine V_callV (K' := 0) (S' := 0) 57 1 8 2 [.int 0, .int ((nI (cM K)) - 1)] mkX8_takeNumber lkX9_63 (by decide) rfl rfl (by decide) rfl (Nat.le_of_ble_eq_true rfl) (Nat.le_of_ble_eq_true rfl) (Nat.le_of_ble_eq_true rfl) (Nat.le_of_ble_eq_true rfl) rfl rfl dX9_readOperands_54 rfl (c_X8_takeNumber (lo := 0) (cnt := cM K) hRK hT (by decide) (hh_m1 (cM K) (by omega)) hp (fun e => absurd rfl e) (fun v54 p54 _ e54 => ?_) (fun k54 _ e54 => ?_))
    · refine Kq_i (k' := 0) (sl' := 0) rfl rfl ?_
      obtain ⟨-, -, lo54, hi54, -, -, lt54, hp54⟩ := pNum_ok e54
      refine V_iastN 58 36 31 n (by omega) (by decide) rfl (by decide) dX9_readOperands_57 rfl ?_
      rw [tp_up (by omega)]
      refine V_iload 60 0 rfl dX9_readOperands_58 rfl ?_
      refine V_if_ne 83 63 rfl dX9_readOperands_60 rfl (fun c60 => ?_) (fun c60 => absurd c60 (by decide))
      refine V_iload 85 0 rfl dX9_readOperands_83 rfl ?_
      refine V_iconst 86 (2) rfl dX9_readOperands_85 rfl ?_
      refine V_icmp_ne 106 89 rfl dX9_readOperands_86 rfl (fun c86 => ?_) (fun c86 => absurd c86 (by decide))
      refine V_ret_v rfl (Nat.le_of_ble_eq_true rfl) (fun h => absurd h (by decide)) (Nat.le_of_ble_eq_true rfl) (hk v54 0 _ _ ((if_neg (by decide)).trans ((if_neg (by decide)).trans ((bd_ok e54).trans ((if_neg (by decide)).trans (if_neg (by decide)))))) (fun _ => by rw [up2_s]; exact upd_s) (fun e => absurd e (by decide)) (FrO2.u FrO2.rf (by decide)) hp54) dX9_readOperands_106
    · refine Kq_i (k' := 0) (sl' := 0) rfl rfl ?_
      have kk54 := pNum_k e54
      have kne54 := kd_ne kk54.1 kk54.2
      refine V_iastN 58 36 31 n (by omega) (by decide) rfl (by decide) dX9_readOperands_57 rfl ?_
      rw [tp_up (by omega)]
      refine V_iload 60 0 rfl dX9_readOperands_58 rfl ?_
      refine V_if_ne 83 63 rfl dX9_readOperands_60 rfl (fun c60 => ?_) (fun c60 => absurd c60 (by decide))
      refine V_iload 85 0 rfl dX9_readOperands_83 rfl ?_
      refine V_iconst 86 (2) rfl dX9_readOperands_85 rfl ?_
      refine V_icmp_ne 106 89 rfl dX9_readOperands_86 rfl (fun c86 => ?_) (fun c86 => absurd c86 (by decide))
      refine V_ret_v rfl (Nat.le_of_ble_eq_true rfl) (fun h => absurd h (by decide)) (Nat.le_of_ble_eq_true rfl) (hb _ _ _ _ ((if_neg (by decide)).trans ((if_neg (by decide)).trans (bd_no e54))) kk54.1 kk54.2 hp (FrO2.u FrO2.rf (by decide)) hp) dX9_readOperands_106
  · show V _ _ _ _ _ _ _ _ [(0, rf G 34), (1, rf G 1), (2, rf G c), (3, .int (nI n))] [] _ _ _ _ _
    refine V_aload_n 1 0 rfl _ rfl rfl dX9_readOperands_0 rfl ?_
    refine V_getR 4 34 9 0 35 (hRK 34 0 (by decide) (by decide) (by decide)) flX9_11 rfl rfl rfl (by decide) dX9_readOperands_1 rfl ?_
    refine V_iload_n 5 3 rfl rfl dX9_readOperands_4 rfl ?_
    refine V_ialdN 6 35 31 n 2 (show tp t z _ _ _ _ 35 n = _ from by rw [tp_n (by decide)]; exact hkd) (by omega) (by decide) rfl (by decide) dX9_readOperands_5 rfl ?_
    refine V_istore 8 [(4, .int 2), (0, rf G 34), (1, rf G 1), (2, rf G c), (3, .int (nI n))] (by decide) rfl dX9_readOperands_6 rfl ?_
    refine V_iload 10 0 rfl dX9_readOperands_8 rfl ?_
    refine V_iconst 11 (4) rfl dX9_readOperands_10 rfl ?_
    refine V_icmp_ne 34 14 rfl dX9_readOperands_11 rfl (fun c11 => ?_) (fun c11 => absurd c11 (by decide))
    refine V_iload 36 0 rfl dX9_readOperands_34 rfl ?_
    refine V_bipush 38 (6) rfl dX9_readOperands_36 rfl ?_
    refine V_icmp_eq 58 41 rfl dX9_readOperands_38 rfl (fun c38 => absurd c38 (by decide)) (fun c38 => ?_)
    refine V_aload_n 42 1 rfl _ rfl rfl dX9_readOperands_41 rfl ?_
    refine V_getR 45 34 9 1 36 (hRK 34 1 (by decide) (by decide) (by decide)) flX9_15 rfl rfl rfl (by decide) dX9_readOperands_42 rfl ?_
    refine V_iload_n 46 4 rfl rfl dX9_readOperands_45 rfl ?_
    refine V_aload_n 47 2 rfl _ rfl rfl dX9_readOperands_46 rfl ?_
    refine V_iconst 48 (0) rfl dX9_readOperands_47 rfl ?_
    refine V_aload_n 49 3 rfl _ rfl rfl dX9_readOperands_48 rfl ?_
    refine V_getI 52 c 2 8 (nI (cM K)) (show tp t z _ _ _ _ c 8 = _ from by rw [tp_n (by omega)]; exact hC.2.2.1) flX9_75 rfl (ly_c hc).1 rfl (by omega) dX9_readOperands_49 rfl ?_
    refine V_iconst 53 (1) rfl dX9_readOperands_52 rfl ?_
    refine V_isub 54 dX9_readOperands_53 rfl ?_
    refine V_callV (K' := 0) (S' := 0) 57 1 8 2 [.int 0, .int ((nI (cM K)) - 1)] mkX8_takeNumber lkX9_63 (by decide) rfl rfl (by decide) rfl (Nat.le_of_ble_eq_true rfl) (Nat.le_of_ble_eq_true rfl) (Nat.le_of_ble_eq_true rfl) (Nat.le_of_ble_eq_true rfl) rfl rfl dX9_readOperands_54 rfl (c_X8_takeNumber (lo := 0) (cnt := cM K) hRK hT (by decide) (hh_m1 (cM K) (by omega)) hp (fun e => absurd rfl e) (fun v54 p54 _ e54 => ?_) (fun k54 _ e54 => ?_))
    · refine Kq_i (k' := 0) (sl' := 0) rfl rfl ?_
      obtain ⟨-, -, lo54, hi54, -, -, lt54, hp54⟩ := pNum_ok e54
      refine V_iastN 58 36 31 n (by omega) (by decide) rfl (by decide) dX9_readOperands_57 rfl ?_
      rw [tp_up (by omega)]
      refine V_iload 60 0 rfl dX9_readOperands_58 rfl ?_
      refine V_if_ne 83 63 rfl dX9_readOperands_60 rfl (fun c60 => ?_) (fun c60 => absurd c60 (by decide))
      refine V_iload 85 0 rfl dX9_readOperands_83 rfl ?_
      refine V_iconst 86 (2) rfl dX9_readOperands_85 rfl ?_
      refine V_icmp_ne 106 89 rfl dX9_readOperands_86 rfl (fun c86 => absurd c86 (by decide)) (fun c86 => ?_)
      refine V_aload_n 90 1 rfl _ rfl rfl dX9_readOperands_89 rfl ?_
      refine V_getR 93 34 9 2 37 (hRK 34 2 (by decide) (by decide) (by decide)) flX9_18 rfl rfl rfl (by decide) dX9_readOperands_90 rfl ?_
      refine V_iload_n 94 4 rfl rfl dX9_readOperands_93 rfl ?_
      refine V_aload_n 95 2 rfl _ rfl rfl dX9_readOperands_94 rfl ?_
      refine V_iconst 96 (0) rfl dX9_readOperands_95 rfl ?_
      refine V_aload_n 97 3 rfl _ rfl rfl dX9_readOperands_96 rfl ?_
      refine V_getI 100 c 2 7 (nI (cG K)) (show tp t z _ _ _ _ c 7 = _ from by rw [tp_n (by omega), up2_n _ _ _ (by omega)]; exact hC.2.1) flX9_78 rfl (ly_c hc).1 rfl (by omega) dX9_readOperands_97 rfl ?_
      refine V_iconst 101 (1) rfl dX9_readOperands_100 rfl ?_
      refine V_isub 102 dX9_readOperands_101 rfl ?_
      refine V_callV (K' := 0) (S' := 0) 105 1 8 2 [.int 0, .int ((nI (cG K)) - 1)] mkX8_takeNumber lkX9_63 (by decide) rfl rfl (by decide) rfl (Nat.le_of_ble_eq_true rfl) (Nat.le_of_ble_eq_true rfl) (Nat.le_of_ble_eq_true rfl) (Nat.le_of_ble_eq_true rfl) rfl rfl dX9_readOperands_102 rfl (c_X8_takeNumber (lo := 0) (cnt := cG K) hRK (TxC.up hT (by omega) (by omega)) (by decide) (hh_m1 (cG K) (by omega)) hp54 (fun e => absurd rfl e) (fun v102 p102 _ e102 => ?_) (fun k102 _ e102 => ?_))
      · refine Kq_i (k' := 0) (sl' := 0) rfl rfl ?_
        obtain ⟨-, -, lo102, hi102, -, -, lt102, hp102⟩ := pNum_ok e102
        refine V_iastN 106 37 31 n (by omega) (by decide) rfl (by decide) dX9_readOperands_105 rfl ?_
        rw [tp_up (by omega)]
        refine V_ret_v rfl (Nat.le_of_ble_eq_true rfl) (fun h => absurd h (by decide)) (Nat.le_of_ble_eq_true rfl) (hk v54 v102 _ _ ((if_neg (by decide)).trans ((if_neg (by decide)).trans ((bd_ok e54).trans (((if_neg (by decide)).trans (if_pos rfl)).trans (bd_ok e102))))) (fun _ => by rw [up2_n _ _ _ (by decide), up2_s]; exact upd_s) (fun _ => by rw [up2_s]; exact upd_s) (FrO2.u (FrO2.u FrO2.rf (by decide)) (by decide)) hp102) dX9_readOperands_106
      · refine Kq_i (k' := 0) (sl' := 0) rfl rfl ?_
        have kk102 := pNum_k e102
        have kne102 := kd_ne kk102.1 kk102.2
        refine V_iastN 106 37 31 n (by omega) (by decide) rfl (by decide) dX9_readOperands_105 rfl ?_
        rw [tp_up (by omega)]
        refine V_ret_v rfl (Nat.le_of_ble_eq_true rfl) (fun h => absurd h (by decide)) (Nat.le_of_ble_eq_true rfl) (hb _ _ _ _ ((if_neg (by decide)).trans ((if_neg (by decide)).trans ((bd_ok e54).trans (((if_neg (by decide)).trans (if_pos rfl)).trans (bd_no e102))))) kk102.1 kk102.2 hp54 (FrO2.u (FrO2.u FrO2.rf (by decide)) (by decide)) hp54) dX9_readOperands_106
    · refine Kq_i (k' := 0) (sl' := 0) rfl rfl ?_
      have kk54 := pNum_k e54
      have kne54 := kd_ne kk54.1 kk54.2
      refine V_iastN 58 36 31 n (by omega) (by decide) rfl (by decide) dX9_readOperands_57 rfl ?_
      rw [tp_up (by omega)]
      refine V_iload 60 0 rfl dX9_readOperands_58 rfl ?_
      refine V_if_ne 83 63 rfl dX9_readOperands_60 rfl (fun c60 => ?_) (fun c60 => absurd c60 (by decide))
      refine V_iload 85 0 rfl dX9_readOperands_83 rfl ?_
      refine V_iconst 86 (2) rfl dX9_readOperands_85 rfl ?_
      refine V_icmp_ne 106 89 rfl dX9_readOperands_86 rfl (fun c86 => absurd c86 (by decide)) (fun c86 => ?_)
      refine V_aload_n 90 1 rfl _ rfl rfl dX9_readOperands_89 rfl ?_
      refine V_getR 93 34 9 2 37 (hRK 34 2 (by decide) (by decide) (by decide)) flX9_18 rfl rfl rfl (by decide) dX9_readOperands_90 rfl ?_
      refine V_iload_n 94 4 rfl rfl dX9_readOperands_93 rfl ?_
      refine V_aload_n 95 2 rfl _ rfl rfl dX9_readOperands_94 rfl ?_
      refine V_iconst 96 (0) rfl dX9_readOperands_95 rfl ?_
      refine V_aload_n 97 3 rfl _ rfl rfl dX9_readOperands_96 rfl ?_
      refine V_getI 100 c 2 7 (nI (cG K)) (show tp t z _ _ _ _ c 7 = _ from by rw [tp_n (by omega), up2_n _ _ _ (by omega)]; exact hC.2.1) flX9_78 rfl (ly_c hc).1 rfl (by omega) dX9_readOperands_97 rfl ?_
      refine V_iconst 101 (1) rfl dX9_readOperands_100 rfl ?_
      refine V_isub 102 dX9_readOperands_101 rfl ?_
      refine V_callV (K' := 0) (S' := 0) 105 1 8 2 [.int 0, .int ((nI (cG K)) - 1)] mkX8_takeNumber lkX9_63 (by decide) rfl rfl (by decide) rfl (Nat.le_of_ble_eq_true rfl) (Nat.le_of_ble_eq_true rfl) (Nat.le_of_ble_eq_true rfl) (Nat.le_of_ble_eq_true rfl) rfl rfl dX9_readOperands_102 rfl (c_X8_takeNumber (lo := 0) (cnt := cG K) hRK (TxC.up hT (by omega) (by omega)) (by decide) (hh_m1 (cG K) (by omega)) hp (fun _ => ?_) (fun _ _ e _ => absurd e kne54) (fun _ e _ => absurd e kne54))
      refine Kq_i (k' := 0) (sl' := 0) rfl rfl ?_
      refine V_iastN 106 37 31 n (by omega) (by decide) rfl (by decide) dX9_readOperands_105 rfl ?_
      rw [tp_up (by omega)]
      refine V_ret_v rfl (Nat.le_of_ble_eq_true rfl) (fun h => absurd h (by decide)) (Nat.le_of_ble_eq_true rfl) (hb _ _ _ _ ((if_neg (by decide)).trans ((if_neg (by decide)).trans (bd_no e54))) kk54.1 kk54.2 hp (FrO2.u (FrO2.u FrO2.rf (by decide)) (by decide)) hp) dX9_readOperands_106
  · show V _ _ _ _ _ _ _ _ [(0, rf G 34), (1, rf G 1), (2, rf G c), (3, .int (nI n))] [] _ _ _ _ _
    refine V_aload_n 1 0 rfl _ rfl rfl dX9_readOperands_0 rfl ?_
    refine V_getR 4 34 9 0 35 (hRK 34 0 (by decide) (by decide) (by decide)) flX9_11 rfl rfl rfl (by decide) dX9_readOperands_1 rfl ?_
    refine V_iload_n 5 3 rfl rfl dX9_readOperands_4 rfl ?_
    refine V_ialdN 6 35 31 n 3 (show tp t z _ _ _ _ 35 n = _ from by rw [tp_n (by decide)]; exact hkd) (by omega) (by decide) rfl (by decide) dX9_readOperands_5 rfl ?_
    refine V_istore 8 [(4, .int 3), (0, rf G 34), (1, rf G 1), (2, rf G c), (3, .int (nI n))] (by decide) rfl dX9_readOperands_6 rfl ?_
    refine V_iload 10 0 rfl dX9_readOperands_8 rfl ?_
    refine V_iconst 11 (4) rfl dX9_readOperands_10 rfl ?_
    refine V_icmp_ne 34 14 rfl dX9_readOperands_11 rfl (fun c11 => ?_) (fun c11 => absurd c11 (by decide))
    refine V_iload 36 0 rfl dX9_readOperands_34 rfl ?_
    refine V_bipush 38 (6) rfl dX9_readOperands_36 rfl ?_
    refine V_icmp_eq 58 41 rfl dX9_readOperands_38 rfl (fun c38 => absurd c38 (by decide)) (fun c38 => ?_)
    refine V_aload_n 42 1 rfl _ rfl rfl dX9_readOperands_41 rfl ?_
    refine V_getR 45 34 9 1 36 (hRK 34 1 (by decide) (by decide) (by decide)) flX9_15 rfl rfl rfl (by decide) dX9_readOperands_42 rfl ?_
    refine V_iload_n 46 4 rfl rfl dX9_readOperands_45 rfl ?_
    refine V_aload_n 47 2 rfl _ rfl rfl dX9_readOperands_46 rfl ?_
    refine V_iconst 48 (0) rfl dX9_readOperands_47 rfl ?_
    refine V_aload_n 49 3 rfl _ rfl rfl dX9_readOperands_48 rfl ?_
    refine V_getI 52 c 2 8 (nI (cM K)) (show tp t z _ _ _ _ c 8 = _ from by rw [tp_n (by omega)]; exact hC.2.2.1) flX9_75 rfl (ly_c hc).1 rfl (by omega) dX9_readOperands_49 rfl ?_
    refine V_iconst 53 (1) rfl dX9_readOperands_52 rfl ?_
    refine V_isub 54 dX9_readOperands_53 rfl ?_
    refine V_callV (K' := 0) (S' := 0) 57 1 8 2 [.int 0, .int ((nI (cM K)) - 1)] mkX8_takeNumber lkX9_63 (by decide) rfl rfl (by decide) rfl (Nat.le_of_ble_eq_true rfl) (Nat.le_of_ble_eq_true rfl) (Nat.le_of_ble_eq_true rfl) (Nat.le_of_ble_eq_true rfl) rfl rfl dX9_readOperands_54 rfl (c_X8_takeNumber (lo := 0) (cnt := cM K) hRK hT (by decide) (hh_m1 (cM K) (by omega)) hp (fun e => absurd rfl e) (fun v54 p54 _ e54 => ?_) (fun k54 _ e54 => ?_))
    · refine Kq_i (k' := 0) (sl' := 0) rfl rfl ?_
      obtain ⟨-, -, lo54, hi54, -, -, lt54, hp54⟩ := pNum_ok e54
      refine V_iastN 58 36 31 n (by omega) (by decide) rfl (by decide) dX9_readOperands_57 rfl ?_
      rw [tp_up (by omega)]
      refine V_iload 60 0 rfl dX9_readOperands_58 rfl ?_
      refine V_if_ne 83 63 rfl dX9_readOperands_60 rfl (fun c60 => ?_) (fun c60 => absurd c60 (by decide))
      refine V_iload 85 0 rfl dX9_readOperands_83 rfl ?_
      refine V_iconst 86 (2) rfl dX9_readOperands_85 rfl ?_
      refine V_icmp_ne 106 89 rfl dX9_readOperands_86 rfl (fun c86 => ?_) (fun c86 => absurd c86 (by decide))
      refine V_ret_v rfl (Nat.le_of_ble_eq_true rfl) (fun h => absurd h (by decide)) (Nat.le_of_ble_eq_true rfl) (hk v54 0 _ _ ((if_neg (by decide)).trans ((if_neg (by decide)).trans ((bd_ok e54).trans ((if_neg (by decide)).trans (if_neg (by decide)))))) (fun _ => by rw [up2_s]; exact upd_s) (fun e => absurd e (by decide)) (FrO2.u FrO2.rf (by decide)) hp54) dX9_readOperands_106
    · refine Kq_i (k' := 0) (sl' := 0) rfl rfl ?_
      have kk54 := pNum_k e54
      have kne54 := kd_ne kk54.1 kk54.2
      refine V_iastN 58 36 31 n (by omega) (by decide) rfl (by decide) dX9_readOperands_57 rfl ?_
      rw [tp_up (by omega)]
      refine V_iload 60 0 rfl dX9_readOperands_58 rfl ?_
      refine V_if_ne 83 63 rfl dX9_readOperands_60 rfl (fun c60 => ?_) (fun c60 => absurd c60 (by decide))
      refine V_iload 85 0 rfl dX9_readOperands_83 rfl ?_
      refine V_iconst 86 (2) rfl dX9_readOperands_85 rfl ?_
      refine V_icmp_ne 106 89 rfl dX9_readOperands_86 rfl (fun c86 => ?_) (fun c86 => absurd c86 (by decide))
      refine V_ret_v rfl (Nat.le_of_ble_eq_true rfl) (fun h => absurd h (by decide)) (Nat.le_of_ble_eq_true rfl) (hb _ _ _ _ ((if_neg (by decide)).trans ((if_neg (by decide)).trans (bd_no e54))) kk54.1 kk54.2 hp (FrO2.u FrO2.rf (by decide)) hp) dX9_readOperands_106
  · show V _ _ _ _ _ _ _ _ [(0, rf G 34), (1, rf G 1), (2, rf G c), (3, .int (nI n))] [] _ _ _ _ _
    refine V_aload_n 1 0 rfl _ rfl rfl dX9_readOperands_0 rfl ?_
    refine V_getR 4 34 9 0 35 (hRK 34 0 (by decide) (by decide) (by decide)) flX9_11 rfl rfl rfl (by decide) dX9_readOperands_1 rfl ?_
    refine V_iload_n 5 3 rfl rfl dX9_readOperands_4 rfl ?_
    refine V_ialdN 6 35 31 n 4 (show tp t z _ _ _ _ 35 n = _ from by rw [tp_n (by decide)]; exact hkd) (by omega) (by decide) rfl (by decide) dX9_readOperands_5 rfl ?_
    refine V_istore 8 [(4, .int 4), (0, rf G 34), (1, rf G 1), (2, rf G c), (3, .int (nI n))] (by decide) rfl dX9_readOperands_6 rfl ?_
    refine V_iload 10 0 rfl dX9_readOperands_8 rfl ?_
    refine V_iconst 11 (4) rfl dX9_readOperands_10 rfl ?_
    refine V_icmp_ne 34 14 rfl dX9_readOperands_11 rfl (fun c11 => absurd c11 (by decide)) (fun c11 => ?_)
    refine V_aload_n 15 1 rfl _ rfl rfl dX9_readOperands_14 rfl ?_
    refine V_getR 18 34 9 1 36 (hRK 34 1 (by decide) (by decide) (by decide)) flX9_15 rfl rfl rfl (by decide) dX9_readOperands_15 rfl ?_
    refine V_iload_n 19 4 rfl rfl dX9_readOperands_18 rfl ?_
    refine V_aload_n 20 2 rfl _ rfl rfl dX9_readOperands_19 rfl ?_
    refine V_iconst 21 (0) rfl dX9_readOperands_20 rfl ?_
    refine V_aload_n 22 3 rfl _ rfl rfl dX9_readOperands_21 rfl ?_
    refine V_getI 25 c 2 6 (nI (cH K)) (show tp t z _ _ _ _ c 6 = _ from by rw [tp_n (by omega)]; exact hC.1) flX9_70 rfl (ly_c hc).1 rfl (by omega) dX9_readOperands_22 rfl ?_
    refine V_iconst 26 (1) rfl dX9_readOperands_25 rfl ?_
    refine V_isub 27 dX9_readOperands_26 rfl ?_
    refine V_callV (K' := 0) (S' := 0) 30 1 8 2 [.int 0, .int ((nI (cH K)) - 1)] mkX8_takeNumber lkX9_63 (by decide) rfl rfl (by decide) rfl (Nat.le_of_ble_eq_true rfl) (Nat.le_of_ble_eq_true rfl) (Nat.le_of_ble_eq_true rfl) (Nat.le_of_ble_eq_true rfl) rfl rfl dX9_readOperands_27 rfl (c_X8_takeNumber (lo := 0) (cnt := cH K) hRK hT (by decide) (hh_m1 (cH K) (by omega)) hp (fun e => absurd rfl e) (fun v27 p27 _ e27 => ?_) (fun k27 _ e27 => ?_))
    · refine Kq_i (k' := 0) (sl' := 0) rfl rfl ?_
      obtain ⟨-, -, lo27, hi27, -, -, lt27, hp27⟩ := pNum_ok e27
      refine V_iastN 31 36 31 n (by omega) (by decide) rfl (by decide) dX9_readOperands_30 rfl ?_
      rw [tp_up (by omega)]
      refine V_goto 58 rfl dX9_readOperands_31 ?_
      refine V_iload 60 0 rfl dX9_readOperands_58 rfl ?_
      refine V_if_ne 83 63 rfl dX9_readOperands_60 rfl (fun c60 => ?_) (fun c60 => absurd c60 (by decide))
      refine V_iload 85 0 rfl dX9_readOperands_83 rfl ?_
      refine V_iconst 86 (2) rfl dX9_readOperands_85 rfl ?_
      refine V_icmp_ne 106 89 rfl dX9_readOperands_86 rfl (fun c86 => ?_) (fun c86 => absurd c86 (by decide))
      refine V_ret_v rfl (Nat.le_of_ble_eq_true rfl) (fun h => absurd h (by decide)) (Nat.le_of_ble_eq_true rfl) (hk v27 0 _ _ ((if_neg (by decide)).trans ((if_pos rfl).trans (bd_ok e27))) (fun _ => by rw [up2_s]; exact upd_s) (fun e => absurd e (by decide)) (FrO2.u FrO2.rf (by decide)) hp27) dX9_readOperands_106
    · refine Kq_i (k' := 0) (sl' := 0) rfl rfl ?_
      have kk27 := pNum_k e27
      have kne27 := kd_ne kk27.1 kk27.2
      refine V_iastN 31 36 31 n (by omega) (by decide) rfl (by decide) dX9_readOperands_30 rfl ?_
      rw [tp_up (by omega)]
      refine V_goto 58 rfl dX9_readOperands_31 ?_
      refine V_iload 60 0 rfl dX9_readOperands_58 rfl ?_
      refine V_if_ne 83 63 rfl dX9_readOperands_60 rfl (fun c60 => ?_) (fun c60 => absurd c60 (by decide))
      refine V_iload 85 0 rfl dX9_readOperands_83 rfl ?_
      refine V_iconst 86 (2) rfl dX9_readOperands_85 rfl ?_
      refine V_icmp_ne 106 89 rfl dX9_readOperands_86 rfl (fun c86 => ?_) (fun c86 => absurd c86 (by decide))
      refine V_ret_v rfl (Nat.le_of_ble_eq_true rfl) (fun h => absurd h (by decide)) (Nat.le_of_ble_eq_true rfl) (hb _ _ _ _ ((if_neg (by decide)).trans ((if_pos rfl).trans (bd_no e27))) kk27.1 kk27.2 hp (FrO2.u FrO2.rf (by decide)) hp) dX9_readOperands_106
  · show V _ _ _ _ _ _ _ _ [(0, rf G 34), (1, rf G 1), (2, rf G c), (3, .int (nI n))] [] _ _ _ _ _
    refine V_aload_n 1 0 rfl _ rfl rfl dX9_readOperands_0 rfl ?_
    refine V_getR 4 34 9 0 35 (hRK 34 0 (by decide) (by decide) (by decide)) flX9_11 rfl rfl rfl (by decide) dX9_readOperands_1 rfl ?_
    refine V_iload_n 5 3 rfl rfl dX9_readOperands_4 rfl ?_
    refine V_ialdN 6 35 31 n 5 (show tp t z _ _ _ _ 35 n = _ from by rw [tp_n (by decide)]; exact hkd) (by omega) (by decide) rfl (by decide) dX9_readOperands_5 rfl ?_
    refine V_istore 8 [(4, .int 5), (0, rf G 34), (1, rf G 1), (2, rf G c), (3, .int (nI n))] (by decide) rfl dX9_readOperands_6 rfl ?_
    refine V_iload 10 0 rfl dX9_readOperands_8 rfl ?_
    refine V_iconst 11 (4) rfl dX9_readOperands_10 rfl ?_
    refine V_icmp_ne 34 14 rfl dX9_readOperands_11 rfl (fun c11 => ?_) (fun c11 => absurd c11 (by decide))
    refine V_iload 36 0 rfl dX9_readOperands_34 rfl ?_
    refine V_bipush 38 (6) rfl dX9_readOperands_36 rfl ?_
    refine V_icmp_eq 58 41 rfl dX9_readOperands_38 rfl (fun c38 => absurd c38 (by decide)) (fun c38 => ?_)
    refine V_aload_n 42 1 rfl _ rfl rfl dX9_readOperands_41 rfl ?_
    refine V_getR 45 34 9 1 36 (hRK 34 1 (by decide) (by decide) (by decide)) flX9_15 rfl rfl rfl (by decide) dX9_readOperands_42 rfl ?_
    refine V_iload_n 46 4 rfl rfl dX9_readOperands_45 rfl ?_
    refine V_aload_n 47 2 rfl _ rfl rfl dX9_readOperands_46 rfl ?_
    refine V_iconst 48 (0) rfl dX9_readOperands_47 rfl ?_
    refine V_aload_n 49 3 rfl _ rfl rfl dX9_readOperands_48 rfl ?_
    refine V_getI 52 c 2 8 (nI (cM K)) (show tp t z _ _ _ _ c 8 = _ from by rw [tp_n (by omega)]; exact hC.2.2.1) flX9_75 rfl (ly_c hc).1 rfl (by omega) dX9_readOperands_49 rfl ?_
    refine V_iconst 53 (1) rfl dX9_readOperands_52 rfl ?_
    refine V_isub 54 dX9_readOperands_53 rfl ?_
    refine V_callV (K' := 0) (S' := 0) 57 1 8 2 [.int 0, .int ((nI (cM K)) - 1)] mkX8_takeNumber lkX9_63 (by decide) rfl rfl (by decide) rfl (Nat.le_of_ble_eq_true rfl) (Nat.le_of_ble_eq_true rfl) (Nat.le_of_ble_eq_true rfl) (Nat.le_of_ble_eq_true rfl) rfl rfl dX9_readOperands_54 rfl (c_X8_takeNumber (lo := 0) (cnt := cM K) hRK hT (by decide) (hh_m1 (cM K) (by omega)) hp (fun e => absurd rfl e) (fun v54 p54 _ e54 => ?_) (fun k54 _ e54 => ?_))
    · refine Kq_i (k' := 0) (sl' := 0) rfl rfl ?_
      obtain ⟨-, -, lo54, hi54, -, -, lt54, hp54⟩ := pNum_ok e54
      refine V_iastN 58 36 31 n (by omega) (by decide) rfl (by decide) dX9_readOperands_57 rfl ?_
      rw [tp_up (by omega)]
      refine V_iload 60 0 rfl dX9_readOperands_58 rfl ?_
      refine V_if_ne 83 63 rfl dX9_readOperands_60 rfl (fun c60 => ?_) (fun c60 => absurd c60 (by decide))
      refine V_iload 85 0 rfl dX9_readOperands_83 rfl ?_
      refine V_iconst 86 (2) rfl dX9_readOperands_85 rfl ?_
      refine V_icmp_ne 106 89 rfl dX9_readOperands_86 rfl (fun c86 => ?_) (fun c86 => absurd c86 (by decide))
      refine V_ret_v rfl (Nat.le_of_ble_eq_true rfl) (fun h => absurd h (by decide)) (Nat.le_of_ble_eq_true rfl) (hk v54 0 _ _ ((if_neg (by decide)).trans ((if_neg (by decide)).trans ((bd_ok e54).trans ((if_neg (by decide)).trans (if_neg (by decide)))))) (fun _ => by rw [up2_s]; exact upd_s) (fun e => absurd e (by decide)) (FrO2.u FrO2.rf (by decide)) hp54) dX9_readOperands_106
    · refine Kq_i (k' := 0) (sl' := 0) rfl rfl ?_
      have kk54 := pNum_k e54
      have kne54 := kd_ne kk54.1 kk54.2
      refine V_iastN 58 36 31 n (by omega) (by decide) rfl (by decide) dX9_readOperands_57 rfl ?_
      rw [tp_up (by omega)]
      refine V_iload 60 0 rfl dX9_readOperands_58 rfl ?_
      refine V_if_ne 83 63 rfl dX9_readOperands_60 rfl (fun c60 => ?_) (fun c60 => absurd c60 (by decide))
      refine V_iload 85 0 rfl dX9_readOperands_83 rfl ?_
      refine V_iconst 86 (2) rfl dX9_readOperands_85 rfl ?_
      refine V_icmp_ne 106 89 rfl dX9_readOperands_86 rfl (fun c86 => ?_) (fun c86 => absurd c86 (by decide))
      refine V_ret_v rfl (Nat.le_of_ble_eq_true rfl) (fun h => absurd h (by decide)) (Nat.le_of_ble_eq_true rfl) (hb _ _ _ _ ((if_neg (by decide)).trans ((if_neg (by decide)).trans (bd_no e54))) kk54.1 kk54.2 hp (FrO2.u FrO2.rf (by decide)) hp) dX9_readOperands_106
  · show V _ _ _ _ _ _ _ _ [(0, rf G 34), (1, rf G 1), (2, rf G c), (3, .int (nI n))] [] _ _ _ _ _
    refine V_aload_n 1 0 rfl _ rfl rfl dX9_readOperands_0 rfl ?_
    refine V_getR 4 34 9 0 35 (hRK 34 0 (by decide) (by decide) (by decide)) flX9_11 rfl rfl rfl (by decide) dX9_readOperands_1 rfl ?_
    refine V_iload_n 5 3 rfl rfl dX9_readOperands_4 rfl ?_
    refine V_ialdN 6 35 31 n 6 (show tp t z _ _ _ _ 35 n = _ from by rw [tp_n (by decide)]; exact hkd) (by omega) (by decide) rfl (by decide) dX9_readOperands_5 rfl ?_
    refine V_istore 8 [(4, .int 6), (0, rf G 34), (1, rf G 1), (2, rf G c), (3, .int (nI n))] (by decide) rfl dX9_readOperands_6 rfl ?_
    refine V_iload 10 0 rfl dX9_readOperands_8 rfl ?_
    refine V_iconst 11 (4) rfl dX9_readOperands_10 rfl ?_
    refine V_icmp_ne 34 14 rfl dX9_readOperands_11 rfl (fun c11 => ?_) (fun c11 => absurd c11 (by decide))
    refine V_iload 36 0 rfl dX9_readOperands_34 rfl ?_
    refine V_bipush 38 (6) rfl dX9_readOperands_36 rfl ?_
    refine V_icmp_eq 58 41 rfl dX9_readOperands_38 rfl (fun c38 => ?_) (fun c38 => absurd c38 (by decide))
    refine V_iload 60 0 rfl dX9_readOperands_58 rfl ?_
    refine V_if_ne 83 63 rfl dX9_readOperands_60 rfl (fun c60 => ?_) (fun c60 => absurd c60 (by decide))
    refine V_iload 85 0 rfl dX9_readOperands_83 rfl ?_
    refine V_iconst 86 (2) rfl dX9_readOperands_85 rfl ?_
    refine V_icmp_ne 106 89 rfl dX9_readOperands_86 rfl (fun c86 => ?_) (fun c86 => absurd c86 (by decide))
    refine V_ret_v rfl (Nat.le_of_ble_eq_true rfl) (fun h => absurd h (by decide)) (Nat.le_of_ble_eq_true rfl) (hk 0 0 _ _ (if_pos rfl) (fun e => absurd rfl e) (fun e => absurd e (by decide)) FrO2.rf hp) dX9_readOperands_106
def WCt (G : Gx) (D0 o : Nat) (t : Nat → Nat) (z : Nat) (K : CO) (u : Nat → SR → Nat → WR) : Prop := ∀ (d : Nat) (I : FI) (R : FR) (J : FJ) (Q : Po) (c p n : Nat) (S : SR) (fp : Int32), D0 ≤ d → RK R → (c = 4 ∨ c = 51) → TxC I t z → z ≤ 150 → CoastC I c K → WK K → p < z → 5 * n ≤ p → I 34 4 = nI n →
  (∀ n' S' p' I', u n S p = .inr ((n', S'), p') → I' 34 4 = nI n' → StR I' n n' S' → EW I I' n → FrW I I' → p' ≤ z → Q (.inl none) 103 (tp t z I' p' 0 fp) R J) →
  (∀ k q p' I', u n S p = .inl (k, q) → 0 < k → k ≤ 3 → q ≤ z → FrW I I' → p' ≤ z → Q (.inl none) 103 (tp t z I' p' (nI k) (nI q)) R J) →
  Cc G mX9_readStep d 0 0 [rf G 34, rf G 1, rf G c, .int (nI o)] 103 (tp t z I p 0 fp) R J Q
def BCt (G : Gx) (D0 o : Nat) (t : Nat → Nat) (z : Nat) (K : CO) (u : Nat → SR → Nat → WR) : Prop := ∀ (d : Nat) (I : FI) (R : FR) (J : FJ) (Q : Po) (c p n : Nat) (S : SR) (fp : Int32), D0 ≤ d → RK R → (c = 4 ∨ c = 51) → TxC I t z → z ≤ 150 → CoastC I c K → WK K → p ≤ z → 5 * n ≤ p → I 34 4 = nI n →
  (∀ n' S' p' I', u n S p = .inr ((n', S'), p') → I' 34 4 = nI n' → StR I' n n' S' → EW I I' n → FrW I I' → p' ≤ z → Q (.inl none) 103 (tp t z I' p' 0 fp) R J) →
  (∀ k q p' I', u n S p = .inl (k, q) → 0 < k → k ≤ 3 → q ≤ z → FrW I I' → p' ≤ z → Q (.inl none) 103 (tp t z I' p' (nI k) (nI q)) R J) →
  (∀ p' I', u n S p = .inl (1, p') → z ≤ p' → p' ≤ z → FrW I I' → Q (.inl none) 103 (tp t z I' p' 0 fp) R J) →
  Cc G mX9_readSteps d 0 0 [rf G 34, rf G 1, rf G c, .int (nI o)] 103 (tp t z I p 0 fp) R J Q
def BTt (G : Gx) (D0 o : Nat) (t : Nat → Nat) (z : Nat) (K : CO) (u : Nat → SR → Nat → WR) : Prop := ∀ (d : Nat) (I : FI) (R : FR) (J : FJ) (Q : Po) (c p n : Nat) (S : SR) (fp : Int32), D0 ≤ d → RK R → (c = 4 ∨ c = 51) → TxC I t z → z ≤ 150 → CoastC I c K → WK K → p ≤ z → 5 * n ≤ p → I 34 4 = nI n →
  (∀ n' S' p' I', u n S p = .inr ((n', S'), p') → I' 34 4 = nI n' → StR I' n n' S' → EW I I' n → FrW I I' → p' ≤ z → Q (.inl none) 103 (tp t z I' p' 0 fp) R J) →
  (∀ k q p' I', u n S p = .inl (k, q) → 0 < k → k ≤ 3 → q ≤ z → FrW I I' → p' ≤ z → Q (.inl none) 103 (tp t z I' p' (nI k) (nI q)) R J) →
  Cc G mX9_readSteps d 0 0 [rf G 34, rf G 1, rf G c, .int (nI o)] 103 (tp t z I p 0 fp) R J Q
theorem pSs_o {st : Nat → SR → Nat → WR} {t : Nat → Nat} {z n n' : Nat} {S S' : SR} {p p1 q : Nat} (e1 : st n S p = .inr ((n', S'), p1)) (e2 : pSig t z 59 p1 = .inr q) : pSs st t z n S p = .inr ((n', S'), q) := by
  unfold pSs; rw [bd_ok e1]; exact bd_ok e2
theorem pSs_2 {st : Nat → SR → Nat → WR} {t : Nat → Nat} {z n n' : Nat} {S S' : SR} {p p1 : Nat} {e : FT} (e1 : st n S p = .inr ((n', S'), p1)) (e2 : pSig t z 59 p1 = .inl e) : pSs st t z n S p = .inl e := by
  unfold pSs; rw [bd_ok e1]; exact bd_no e2
theorem pSs_1 {st : Nat → SR → Nat → WR} {t : Nat → Nat} {z n : Nat} {S : SR} {p : Nat} {e : FT} (e1 : st n S p = .inl e) : pSs st t z n S p = .inl e := bd_no e1
set_option maxHeartbeats 8000000 in
theorem c_X9_readSteps {G : Gx} {t : Nat → Nat} {z D0 o lev : Nat} {K : CO} {u : Nat → SR → Nat → WR} (ho : 0 < o) (ho6 : o ≤ 6) (hOk : OkW t z K lev 1 u) (hU : WCt G D0 o t z K u) : BCt G (D0 + 10) o t z K (fun n S p => pBo (pSs u t z) t z (z + 1) n S p) := by
  intro d I R J Q c p n S fp hd hRK hc hT h150 hC hW hp h5 h4 hk hb he
  obtain ⟨m, rfl⟩ : ∃ m, d = m + 10 := ⟨d - 10, by omega⟩
  have h6 := hT.2.1
  obtain ⟨X, eX⟩ : ∃ X, X = pBo (pSs u t z) t z (z + 1) n S p := ⟨_, rfl⟩
  have hexit : ∀ (i : Int32) p1 I1 k q, 0 < k → k ≤ 3 → q ≤ z → p1 ≤ z → FrW I I1 → X = .inl (k, q) → V G mX9_readSteps (m + 10) 0 0 0 0 3 [(4, .int i), (0, rf G 34), (1, rf G 1), (2, rf G c), (3, .int (nI o))] [] 103 (tp t z I1 p1 (nI k) (nI q)) R J Q := by
    intro i p1 I1 k q hk1 hk3 hq hp1 hF e1
    have hT1 := hF.T hT
    have kn := kd_ne hk1 hk3
    refine V_iload 5 0 rfl dX9_readSteps_3 rfl ?_
    refine V_sipush 8 (150) rfl dX9_readSteps_5 rfl ?_
    refine V_icmp_ge 58 11 rfl dX9_readSteps_8 rfl (fun c8 => ?_) (fun c8 => ?_)
    · refine V_ret_v rfl (Nat.le_of_ble_eq_true rfl) (fun h => absurd h (by decide)) (Nat.le_of_ble_eq_true rfl) (hb _ _ _ _ (eX.symm.trans e1) hk1 hk3 hq hF hp1) dX9_readSteps_58
    · refine V_aload_n 12 2 rfl _ rfl rfl dX9_readSteps_11 rfl ?_
      refine V_callV (K' := 0) (S' := 0) 15 1 8 0 [] mkX8_isFaulty lkX9_32 (by decide) rfl rfl (by decide) rfl (Nat.le_of_ble_eq_true rfl) (Nat.le_of_ble_eq_true rfl) (Nat.le_of_ble_eq_true rfl) (Nat.le_of_ble_eq_true rfl) rfl rfl dX9_readSteps_12 rfl (c_X8_isFaulty (fun e => absurd e kn) (fun _ => ?_))
      refine Kq_i (k' := 0) (sl' := 0) rfl rfl ?_
      refine V_if_ne 58 18 rfl dX9_readSteps_15 rfl (fun c15 => ?_) (fun c15 => absurd c15 (by decide))
      refine V_ret_v rfl (Nat.le_of_ble_eq_true rfl) (fun h => absurd h (by decide)) (Nat.le_of_ble_eq_true rfl) (hb _ _ _ _ (eX.symm.trans e1) hk1 hk3 hq hF hp1) dX9_readSteps_58
  have L : ∀ f i n1 S1 p1 I1, z - p1 < f → i ≤ p1 → p1 ≤ z → n ≤ n1 → 5 * n1 ≤ p1 → I1 34 4 = nI n1 → StR I1 n n1 S1 → (∀ j, j < n → S1 j = S j) → EW I I1 n → FrW I I1 → X = pBo (pSs u t z) t z f n1 S1 p1 → V G mX9_readSteps (m + 10) 0 0 0 0 3 [(4, .int (nI i)), (0, rf G 34), (1, rf G 1), (2, rf G c), (3, .int (nI o))] [] 103 (tp t z I1 p1 0 fp) R J Q := by
    intro f
    induction f with
    | zero => intro i n1 S1 p1 I1 hf; omega
    | succ f ih =>
      intro i n1 S1 p1 I1 hf hi hp1 hn1 h51 h41 hR1 hS1 hE1 hF1 eq
      have hT1 := hF1.T hT
      have hC1 := hF1.C hc hC
      rw [pBo] at eq
      by_cases cz : z ≤ p1
      · rw [if_neg (fun q => absurd q.1 (by omega)), if_pos cz] at eq
        by_cases c150 : i < 150
        · refine V_iload 5 0 rfl dX9_readSteps_3 rfl ?_
          refine V_sipush 8 (150) rfl dX9_readSteps_5 rfl ?_
          refine V_icmp_ge 58 11 rfl dX9_readSteps_8 rfl (fun c8 => absurd c8 (nI_ge (b := 150) c150 (by decide))) (fun c8 => ?_)
          refine V_aload_n 12 2 rfl _ rfl rfl dX9_readSteps_11 rfl ?_
          refine V_callV (K' := 0) (S' := 0) 15 1 8 0 [] mkX8_isFaulty lkX9_32 (by decide) rfl rfl (by decide) rfl (Nat.le_of_ble_eq_true rfl) (Nat.le_of_ble_eq_true rfl) (Nat.le_of_ble_eq_true rfl) (Nat.le_of_ble_eq_true rfl) rfl rfl dX9_readSteps_12 rfl (c_X8_isFaulty (fun _ => ?_) (fun e => absurd rfl e))
          refine Kq_i (k' := 0) (sl' := 0) rfl rfl ?_
          refine V_if_ne 58 18 rfl dX9_readSteps_15 rfl (fun c15 => absurd c15 (by decide)) (fun c15 => ?_)
          refine V_aload_n 19 2 rfl _ rfl rfl dX9_readSteps_18 rfl ?_
          refine V_callV (K' := 0) (S' := 0) 22 1 8 0 [] mkX8_isAtEnd lkX9_38 (by decide) rfl rfl (by decide) rfl (Nat.le_of_ble_eq_true rfl) (Nat.le_of_ble_eq_true rfl) (Nat.le_of_ble_eq_true rfl) (Nat.le_of_ble_eq_true rfl) rfl rfl dX9_readSteps_19 rfl (c_X8_isAtEnd hRK hT1 (fun _ => ?_) (fun q => absurd q (by omega)))
          refine Kq_i (k' := 0) (sl' := 0) rfl rfl ?_
          refine V_if_ne 58 25 rfl dX9_readSteps_22 rfl (fun c22 => ?_) (fun c22 => absurd c22 (by decide))
          refine V_ret_v rfl (Nat.le_of_ble_eq_true rfl) (fun h => absurd h (by decide)) (Nat.le_of_ble_eq_true rfl) (he _ _ (eX.symm.trans eq) cz hp1 hF1) dX9_readSteps_58
        · refine V_iload 5 0 rfl dX9_readSteps_3 rfl ?_
          refine V_sipush 8 (150) rfl dX9_readSteps_5 rfl ?_
          refine V_icmp_ge 58 11 rfl dX9_readSteps_8 rfl (fun c8 => ?_) (fun c8 => absurd (nI_le (a := 150) (by omega) (by omega)) c8)
          refine V_ret_v rfl (Nat.le_of_ble_eq_true rfl) (fun h => absurd h (by decide)) (Nat.le_of_ble_eq_true rfl) (he _ _ (eX.symm.trans eq) cz hp1 hF1) dX9_readSteps_58
      · have c150 : i < 150 := by omega
        by_cases c93 : p1 < z ∧ t p1 = 93
        · refine V_iload 5 0 rfl dX9_readSteps_3 rfl ?_
          refine V_sipush 8 (150) rfl dX9_readSteps_5 rfl ?_
          refine V_icmp_ge 58 11 rfl dX9_readSteps_8 rfl (fun c8 => absurd c8 (nI_ge (b := 150) c150 (by decide))) (fun c8 => ?_)
          refine V_aload_n 12 2 rfl _ rfl rfl dX9_readSteps_11 rfl ?_
          refine V_callV (K' := 0) (S' := 0) 15 1 8 0 [] mkX8_isFaulty lkX9_32 (by decide) rfl rfl (by decide) rfl (Nat.le_of_ble_eq_true rfl) (Nat.le_of_ble_eq_true rfl) (Nat.le_of_ble_eq_true rfl) (Nat.le_of_ble_eq_true rfl) rfl rfl dX9_readSteps_12 rfl (c_X8_isFaulty (fun _ => ?_) (fun e => absurd rfl e))
          refine Kq_i (k' := 0) (sl' := 0) rfl rfl ?_
          refine V_if_ne 58 18 rfl dX9_readSteps_15 rfl (fun c15 => absurd c15 (by decide)) (fun c15 => ?_)
          refine V_aload_n 19 2 rfl _ rfl rfl dX9_readSteps_18 rfl ?_
          refine V_callV (K' := 0) (S' := 0) 22 1 8 0 [] mkX8_isAtEnd lkX9_38 (by decide) rfl rfl (by decide) rfl (Nat.le_of_ble_eq_true rfl) (Nat.le_of_ble_eq_true rfl) (Nat.le_of_ble_eq_true rfl) (Nat.le_of_ble_eq_true rfl) rfl rfl dX9_readSteps_19 rfl (c_X8_isAtEnd hRK hT1 (fun q => absurd q cz) (fun _ => ?_))
          refine Kq_i (k' := 0) (sl' := 0) rfl rfl ?_
          refine V_if_ne 58 25 rfl dX9_readSteps_22 rfl (fun c22 => absurd c22 (by decide)) (fun c22 => ?_)
          refine V_iload_n 26 4 rfl rfl dX9_readSteps_25 rfl ?_
          refine V_if_le 39 29 rfl dX9_readSteps_26 rfl (fun c26 => absurd c26 (nI_nle ho (by omega))) (fun c26 => ?_)
          refine V_aload_n 30 2 rfl _ rfl rfl dX9_readSteps_29 rfl ?_
          refine V_bipush 32 (93) rfl dX9_readSteps_30 rfl ?_
          refine V_callV (K' := 0) (S' := 0) 35 1 8 1 [.int 93] mkX8_isSign lkX9_41 (by decide) rfl rfl (by decide) rfl (Nat.le_of_ble_eq_true rfl) (Nat.le_of_ble_eq_true rfl) (Nat.le_of_ble_eq_true rfl) (Nat.le_of_ble_eq_true rfl) rfl rfl dX9_readSteps_32 rfl (c_X8_isSign (c := 93) hRK hT1 (by decide) (by decide) (by decide) (fun _ _ _ => ?_) (fun q => absurd ⟨rfl, c93⟩ q))
          refine Kq_i (k' := 0) (sl' := 0) rfl rfl ?_
          refine V_if_eq 39 38 rfl dX9_readSteps_35 rfl (fun c35 => absurd c35 (by decide)) (fun c35 => ?_)
          refine V_ret_v rfl (Nat.le_of_ble_eq_true rfl) (fun h => absurd h (by decide)) (Nat.le_of_ble_eq_true rfl) (hk _ _ _ _ (eX.symm.trans (eq.trans (if_pos c93))) h41 hR1 hE1 hF1 hp1) dX9_readSteps_38
        · rw [if_neg c93, if_neg cz] at eq
          refine V_iload 5 0 rfl dX9_readSteps_3 rfl ?_
          refine V_sipush 8 (150) rfl dX9_readSteps_5 rfl ?_
          refine V_icmp_ge 58 11 rfl dX9_readSteps_8 rfl (fun c8 => absurd c8 (nI_ge (b := 150) c150 (by decide))) (fun c8 => ?_)
          refine V_aload_n 12 2 rfl _ rfl rfl dX9_readSteps_11 rfl ?_
          refine V_callV (K' := 0) (S' := 0) 15 1 8 0 [] mkX8_isFaulty lkX9_32 (by decide) rfl rfl (by decide) rfl (Nat.le_of_ble_eq_true rfl) (Nat.le_of_ble_eq_true rfl) (Nat.le_of_ble_eq_true rfl) (Nat.le_of_ble_eq_true rfl) rfl rfl dX9_readSteps_12 rfl (c_X8_isFaulty (fun _ => ?_) (fun e => absurd rfl e))
          refine Kq_i (k' := 0) (sl' := 0) rfl rfl ?_
          refine V_if_ne 58 18 rfl dX9_readSteps_15 rfl (fun c15 => absurd c15 (by decide)) (fun c15 => ?_)
          refine V_aload_n 19 2 rfl _ rfl rfl dX9_readSteps_18 rfl ?_
          refine V_callV (K' := 0) (S' := 0) 22 1 8 0 [] mkX8_isAtEnd lkX9_38 (by decide) rfl rfl (by decide) rfl (Nat.le_of_ble_eq_true rfl) (Nat.le_of_ble_eq_true rfl) (Nat.le_of_ble_eq_true rfl) (Nat.le_of_ble_eq_true rfl) rfl rfl dX9_readSteps_19 rfl (c_X8_isAtEnd hRK hT1 (fun q => absurd q cz) (fun _ => ?_))
          refine Kq_i (k' := 0) (sl' := 0) rfl rfl ?_
          refine V_if_ne 58 25 rfl dX9_readSteps_22 rfl (fun c22 => absurd c22 (by decide)) (fun c22 => ?_)
          refine V_iload_n 26 4 rfl rfl dX9_readSteps_25 rfl ?_
          refine V_if_le 39 29 rfl dX9_readSteps_26 rfl (fun c26 => absurd c26 (nI_nle ho (by omega))) (fun c26 => ?_)
          refine V_aload_n 30 2 rfl _ rfl rfl dX9_readSteps_29 rfl ?_
          refine V_bipush 32 (93) rfl dX9_readSteps_30 rfl ?_
          refine V_callV (K' := 0) (S' := 0) 35 1 8 1 [.int 93] mkX8_isSign lkX9_41 (by decide) rfl rfl (by decide) rfl (Nat.le_of_ble_eq_true rfl) (Nat.le_of_ble_eq_true rfl) (Nat.le_of_ble_eq_true rfl) (Nat.le_of_ble_eq_true rfl) rfl rfl dX9_readSteps_32 rfl (c_X8_isSign (c := 93) hRK hT1 (by decide) (by decide) (by decide) (fun _ q1 q2 => absurd ⟨q1, q2⟩ c93) (fun _ => ?_))
          refine Kq_i (k' := 0) (sl' := 0) rfl rfl ?_
          refine V_if_eq 39 38 rfl dX9_readSteps_35 rfl (fun c35 => ?_) (fun c35 => absurd c35 (by decide))
          refine V_aload_n 40 1 rfl _ rfl rfl dX9_readSteps_39 rfl ?_
          refine V_aload_n 41 2 rfl _ rfl rfl dX9_readSteps_40 rfl ?_
          refine V_aload_n 42 3 rfl _ rfl rfl dX9_readSteps_41 rfl ?_
          refine V_iload_n 43 4 rfl rfl dX9_readSteps_42 rfl ?_
          refine V_callV (K' := 0) (S' := 0) 46 34 9 3 [rf G 1, rf G c, .int (nI o)] mkX9_readStep lkX9_45 (by decide) rfl rfl (by decide) rfl (Nat.le_of_ble_eq_true rfl) (Nat.le_of_ble_eq_true rfl) (Nat.le_of_ble_eq_true rfl) (Nat.le_of_ble_eq_true rfl) rfl rfl dX9_readSteps_43 rfl (hU _ _ _ _ _ c p1 n1 S1 _ (by omega) hRK hc hT1 h150 hC1 hW (by omega) h51 h41 (fun n2 S2 p2 I2 e2 h42 hR2 hE2 hF2 hp2 => ?_) (fun k2 q2 p2 I2 e2 hk2 hk3 hq2 hF2 hp2 => ?_))
          · refine Kq_v (k' := 0) (sl' := 0) rfl rfl ?_
            have hT2 := hF2.T hT1
            obtain ⟨x1, x2, x3, x4, x5, x6, x7⟩ := hOk n1 S1 p1 n2 S2 p2 hp1 e2
            refine V_aload_n 47 2 rfl _ rfl rfl dX9_readSteps_46 rfl ?_
            refine V_bipush 49 (59) rfl dX9_readSteps_47 rfl ?_
            refine V_callV (K' := 0) (S' := 0) 52 1 8 1 [.int 59] mkX8_takeSign lkX9_48 (by decide) rfl rfl (by decide) rfl (Nat.le_of_ble_eq_true rfl) (Nat.le_of_ble_eq_true rfl) (Nat.le_of_ble_eq_true rfl) (Nat.le_of_ble_eq_true rfl) rfl rfl dX9_readSteps_49 rfl (c_X8_takeSign (c := 59) hRK hT2 (by decide) (by decide) (by decide) hp2 (fun e => absurd rfl e) (fun p49 _ e49 => ?_) (fun _ e49 => ?_))
            · refine Kq_v (k' := 0) (sl' := 0) rfl rfl ?_
              obtain ⟨-, -, -, lt49, hp49⟩ := pSig_ok e49
              refine V_iinc 55 0 rfl (nI (i + 1)) [(4, .int (nI (i + 1))), (0, rf G 34), (1, rf G 1), (2, rf G c), (3, .int (nI o))] (nI_1 _) (by decide) rfl dX9_readSteps_52 rfl ?_
              refine V_goto 3 rfl dX9_readSteps_55 ?_
              exact V_lv [0, 1, 2, 3, 4] rfl (ih (i + 1) n2 S2 p49 I2 (by omega) (by omega) hp49 (by omega) (by omega) h42 (hR1.join hR2 hE2 x5) (fun j hj => (x5 j (by omega)).trans (hS1 j hj)) (hE1.tr hE2 hn1) (hF1.tr hF2) (eq.trans (bd_ok (pSs_o e2 e49))))
            · refine Kq_v (k' := 0) (sl' := 0) rfl rfl ?_
              refine V_iinc 55 0 rfl (nI (i + 1)) [(4, .int (nI (i + 1))), (0, rf G 34), (1, rf G 1), (2, rf G c), (3, .int (nI o))] (nI_1 _) (by decide) rfl dX9_readSteps_52 rfl ?_
              refine V_goto 3 rfl dX9_readSteps_55 ?_
              exact V_lv [0, 1, 2, 3, 4] rfl (hexit _ p2 I2 1 p2 (by decide) (by decide) hp2 hp2 (hF1.tr hF2) (eq.trans (bd_no (pSs_2 e2 e49))))
          · refine Kq_v (k' := 0) (sl' := 0) rfl rfl ?_
            have hT2 := hF2.T hT1
            have kn2 := kd_ne hk2 hk3
            refine V_aload_n 47 2 rfl _ rfl rfl dX9_readSteps_46 rfl ?_
            refine V_bipush 49 (59) rfl dX9_readSteps_47 rfl ?_
            refine V_callV (K' := 0) (S' := 0) 52 1 8 1 [.int 59] mkX8_takeSign lkX9_48 (by decide) rfl rfl (by decide) rfl (Nat.le_of_ble_eq_true rfl) (Nat.le_of_ble_eq_true rfl) (Nat.le_of_ble_eq_true rfl) (Nat.le_of_ble_eq_true rfl) rfl rfl dX9_readSteps_49 rfl (c_X8_takeSign (c := 59) hRK hT2 (by decide) (by decide) (by decide) hp2 (fun _ => ?_) (fun _ e _ => absurd e kn2) (fun e _ => absurd e kn2))
            refine Kq_v (k' := 0) (sl' := 0) rfl rfl ?_
            refine V_iinc 55 0 rfl (nI (i + 1)) [(4, .int (nI (i + 1))), (0, rf G 34), (1, rf G 1), (2, rf G c), (3, .int (nI o))] (nI_1 _) (by decide) rfl dX9_readSteps_52 rfl ?_
            refine V_goto 3 rfl dX9_readSteps_55 ?_
            exact V_lv [0, 1, 2, 3, 4] rfl (hexit _ p2 I2 k2 q2 hk2 hk3 hq2 hp2 (hF1.tr hF2) (eq.trans (bd_no (pSs_1 e2))))
  show V _ _ _ _ _ _ _ _ [(0, rf G 34), (1, rf G 1), (2, rf G c), (3, .int (nI o))] [] _ _ _ _ _
  refine V_iconst 1 (0) rfl dX9_readSteps_0 rfl ?_
  refine V_istore 3 [(4, .int 0), (0, rf G 34), (1, rf G 1), (2, rf G c), (3, .int (nI o))] (by decide) rfl dX9_readSteps_1 rfl ?_
  exact V_lv [0, 1, 2, 3, 4] rfl (L (z + 1) 0 n S p I (by omega) (Nat.zero_le _) hp (Nat.le_refl _) h5 h4 (fun i a b => absurd b (by omega)) (fun _ _ => rfl) EW.rf FrW.rf eX)
set_option maxHeartbeats 8000000 in
theorem c_X9_readStepsT {G : Gx} {t : Nat → Nat} {z D0 o lev : Nat} {K : CO} {u : Nat → SR → Nat → WR} (ho : o = 0) (hOk : OkW t z K lev 1 u) (hU : WCt G D0 o t z K u) : BTt G (D0 + 10) o t z K (fun n S p => pTo (pSs u t z) z (z + 1) n S p) := by
  intro d I R J Q c p n S fp hd hRK hc hT h150 hC hW hp h5 h4 hk hb
  obtain ⟨m, rfl⟩ : ∃ m, d = m + 10 := ⟨d - 10, by omega⟩
  have h6 := hT.2.1
  obtain ⟨X, eX⟩ : ∃ X, X = pTo (pSs u t z) z (z + 1) n S p := ⟨_, rfl⟩
  have hexit : ∀ (i : Int32) p1 I1 k q, 0 < k → k ≤ 3 → q ≤ z → p1 ≤ z → FrW I I1 → X = .inl (k, q) → V G mX9_readSteps (m + 10) 0 0 0 0 3 [(4, .int i), (0, rf G 34), (1, rf G 1), (2, rf G c), (3, .int (nI o))] [] 103 (tp t z I1 p1 (nI k) (nI q)) R J Q := by
    intro i p1 I1 k q hk1 hk3 hq hp1 hF e1
    have hT1 := hF.T hT
    have kn := kd_ne hk1 hk3
    refine V_iload 5 0 rfl dX9_readSteps_3 rfl ?_
    refine V_sipush 8 (150) rfl dX9_readSteps_5 rfl ?_
    refine V_icmp_ge 58 11 rfl dX9_readSteps_8 rfl (fun c8 => ?_) (fun c8 => ?_)
    · refine V_ret_v rfl (Nat.le_of_ble_eq_true rfl) (fun h => absurd h (by decide)) (Nat.le_of_ble_eq_true rfl) (hb _ _ _ _ (eX.symm.trans e1) hk1 hk3 hq hF hp1) dX9_readSteps_58
    · refine V_aload_n 12 2 rfl _ rfl rfl dX9_readSteps_11 rfl ?_
      refine V_callV (K' := 0) (S' := 0) 15 1 8 0 [] mkX8_isFaulty lkX9_32 (by decide) rfl rfl (by decide) rfl (Nat.le_of_ble_eq_true rfl) (Nat.le_of_ble_eq_true rfl) (Nat.le_of_ble_eq_true rfl) (Nat.le_of_ble_eq_true rfl) rfl rfl dX9_readSteps_12 rfl (c_X8_isFaulty (fun e => absurd e kn) (fun _ => ?_))
      refine Kq_i (k' := 0) (sl' := 0) rfl rfl ?_
      refine V_if_ne 58 18 rfl dX9_readSteps_15 rfl (fun c15 => ?_) (fun c15 => absurd c15 (by decide))
      refine V_ret_v rfl (Nat.le_of_ble_eq_true rfl) (fun h => absurd h (by decide)) (Nat.le_of_ble_eq_true rfl) (hb _ _ _ _ (eX.symm.trans e1) hk1 hk3 hq hF hp1) dX9_readSteps_58
  have L : ∀ f i n1 S1 p1 I1, z - p1 < f → i ≤ p1 → p1 ≤ z → n ≤ n1 → 5 * n1 ≤ p1 → I1 34 4 = nI n1 → StR I1 n n1 S1 → (∀ j, j < n → S1 j = S j) → EW I I1 n → FrW I I1 → X = pTo (pSs u t z) z f n1 S1 p1 → V G mX9_readSteps (m + 10) 0 0 0 0 3 [(4, .int (nI i)), (0, rf G 34), (1, rf G 1), (2, rf G c), (3, .int (nI o))] [] 103 (tp t z I1 p1 0 fp) R J Q := by
    intro f
    induction f with
    | zero => intro i n1 S1 p1 I1 hf; omega
    | succ f ih =>
      intro i n1 S1 p1 I1 hf hi hp1 hn1 h51 h41 hR1 hS1 hE1 hF1 eq
      have hT1 := hF1.T hT
      have hC1 := hF1.C hc hC
      rw [pTo] at eq
      by_cases cz : z ≤ p1
      · by_cases c150 : i < 150
        · refine V_iload 5 0 rfl dX9_readSteps_3 rfl ?_
          refine V_sipush 8 (150) rfl dX9_readSteps_5 rfl ?_
          refine V_icmp_ge 58 11 rfl dX9_readSteps_8 rfl (fun c8 => absurd c8 (nI_ge (b := 150) c150 (by decide))) (fun c8 => ?_)
          refine V_aload_n 12 2 rfl _ rfl rfl dX9_readSteps_11 rfl ?_
          refine V_callV (K' := 0) (S' := 0) 15 1 8 0 [] mkX8_isFaulty lkX9_32 (by decide) rfl rfl (by decide) rfl (Nat.le_of_ble_eq_true rfl) (Nat.le_of_ble_eq_true rfl) (Nat.le_of_ble_eq_true rfl) (Nat.le_of_ble_eq_true rfl) rfl rfl dX9_readSteps_12 rfl (c_X8_isFaulty (fun _ => ?_) (fun e => absurd rfl e))
          refine Kq_i (k' := 0) (sl' := 0) rfl rfl ?_
          refine V_if_ne 58 18 rfl dX9_readSteps_15 rfl (fun c15 => absurd c15 (by decide)) (fun c15 => ?_)
          refine V_aload_n 19 2 rfl _ rfl rfl dX9_readSteps_18 rfl ?_
          refine V_callV (K' := 0) (S' := 0) 22 1 8 0 [] mkX8_isAtEnd lkX9_38 (by decide) rfl rfl (by decide) rfl (Nat.le_of_ble_eq_true rfl) (Nat.le_of_ble_eq_true rfl) (Nat.le_of_ble_eq_true rfl) (Nat.le_of_ble_eq_true rfl) rfl rfl dX9_readSteps_19 rfl (c_X8_isAtEnd hRK hT1 (fun _ => ?_) (fun q => absurd q (by omega)))
          refine Kq_i (k' := 0) (sl' := 0) rfl rfl ?_
          refine V_if_ne 58 25 rfl dX9_readSteps_22 rfl (fun c22 => ?_) (fun c22 => absurd c22 (by decide))
          refine V_ret_v rfl (Nat.le_of_ble_eq_true rfl) (fun h => absurd h (by decide)) (Nat.le_of_ble_eq_true rfl) (hk _ _ _ _ (eX.symm.trans (eq.trans (if_pos cz))) h41 hR1 hE1 hF1 hp1) dX9_readSteps_58
        · refine V_iload 5 0 rfl dX9_readSteps_3 rfl ?_
          refine V_sipush 8 (150) rfl dX9_readSteps_5 rfl ?_
          refine V_icmp_ge 58 11 rfl dX9_readSteps_8 rfl (fun c8 => ?_) (fun c8 => absurd (nI_le (a := 150) (by omega) (by omega)) c8)
          refine V_ret_v rfl (Nat.le_of_ble_eq_true rfl) (fun h => absurd h (by decide)) (Nat.le_of_ble_eq_true rfl) (hk _ _ _ _ (eX.symm.trans (eq.trans (if_pos cz))) h41 hR1 hE1 hF1 hp1) dX9_readSteps_58
      · have c150 : i < 150 := by omega
        rw [if_neg cz] at eq
        refine V_iload 5 0 rfl dX9_readSteps_3 rfl ?_
        refine V_sipush 8 (150) rfl dX9_readSteps_5 rfl ?_
        refine V_icmp_ge 58 11 rfl dX9_readSteps_8 rfl (fun c8 => absurd c8 (nI_ge (b := 150) c150 (by decide))) (fun c8 => ?_)
        refine V_aload_n 12 2 rfl _ rfl rfl dX9_readSteps_11 rfl ?_
        refine V_callV (K' := 0) (S' := 0) 15 1 8 0 [] mkX8_isFaulty lkX9_32 (by decide) rfl rfl (by decide) rfl (Nat.le_of_ble_eq_true rfl) (Nat.le_of_ble_eq_true rfl) (Nat.le_of_ble_eq_true rfl) (Nat.le_of_ble_eq_true rfl) rfl rfl dX9_readSteps_12 rfl (c_X8_isFaulty (fun _ => ?_) (fun e => absurd rfl e))
        refine Kq_i (k' := 0) (sl' := 0) rfl rfl ?_
        refine V_if_ne 58 18 rfl dX9_readSteps_15 rfl (fun c15 => absurd c15 (by decide)) (fun c15 => ?_)
        refine V_aload_n 19 2 rfl _ rfl rfl dX9_readSteps_18 rfl ?_
        refine V_callV (K' := 0) (S' := 0) 22 1 8 0 [] mkX8_isAtEnd lkX9_38 (by decide) rfl rfl (by decide) rfl (Nat.le_of_ble_eq_true rfl) (Nat.le_of_ble_eq_true rfl) (Nat.le_of_ble_eq_true rfl) (Nat.le_of_ble_eq_true rfl) rfl rfl dX9_readSteps_19 rfl (c_X8_isAtEnd hRK hT1 (fun q => absurd q cz) (fun _ => ?_))
        refine Kq_i (k' := 0) (sl' := 0) rfl rfl ?_
        refine V_if_ne 58 25 rfl dX9_readSteps_22 rfl (fun c22 => absurd c22 (by decide)) (fun c22 => ?_)
        refine V_iload_n 26 4 rfl rfl dX9_readSteps_25 rfl ?_
        refine V_if_le 39 29 rfl dX9_readSteps_26 rfl (fun c26 => ?_) (fun c26 => absurd (by rw [ho]; decide) c26)
        refine V_aload_n 40 1 rfl _ rfl rfl dX9_readSteps_39 rfl ?_
        refine V_aload_n 41 2 rfl _ rfl rfl dX9_readSteps_40 rfl ?_
        refine V_aload_n 42 3 rfl _ rfl rfl dX9_readSteps_41 rfl ?_
        refine V_iload_n 43 4 rfl rfl dX9_readSteps_42 rfl ?_
        refine V_callV (K' := 0) (S' := 0) 46 34 9 3 [rf G 1, rf G c, .int (nI o)] mkX9_readStep lkX9_45 (by decide) rfl rfl (by decide) rfl (Nat.le_of_ble_eq_true rfl) (Nat.le_of_ble_eq_true rfl) (Nat.le_of_ble_eq_true rfl) (Nat.le_of_ble_eq_true rfl) rfl rfl dX9_readSteps_43 rfl (hU _ _ _ _ _ c p1 n1 S1 _ (by omega) hRK hc hT1 h150 hC1 hW (by omega) h51 h41 (fun n2 S2 p2 I2 e2 h42 hR2 hE2 hF2 hp2 => ?_) (fun k2 q2 p2 I2 e2 hk2 hk3 hq2 hF2 hp2 => ?_))
        · refine Kq_v (k' := 0) (sl' := 0) rfl rfl ?_
          have hT2 := hF2.T hT1
          obtain ⟨x1, x2, x3, x4, x5, x6, x7⟩ := hOk n1 S1 p1 n2 S2 p2 hp1 e2
          refine V_aload_n 47 2 rfl _ rfl rfl dX9_readSteps_46 rfl ?_
          refine V_bipush 49 (59) rfl dX9_readSteps_47 rfl ?_
          refine V_callV (K' := 0) (S' := 0) 52 1 8 1 [.int 59] mkX8_takeSign lkX9_48 (by decide) rfl rfl (by decide) rfl (Nat.le_of_ble_eq_true rfl) (Nat.le_of_ble_eq_true rfl) (Nat.le_of_ble_eq_true rfl) (Nat.le_of_ble_eq_true rfl) rfl rfl dX9_readSteps_49 rfl (c_X8_takeSign (c := 59) hRK hT2 (by decide) (by decide) (by decide) hp2 (fun e => absurd rfl e) (fun p49 _ e49 => ?_) (fun _ e49 => ?_))
          · refine Kq_v (k' := 0) (sl' := 0) rfl rfl ?_
            obtain ⟨-, -, -, lt49, hp49⟩ := pSig_ok e49
            refine V_iinc 55 0 rfl (nI (i + 1)) [(4, .int (nI (i + 1))), (0, rf G 34), (1, rf G 1), (2, rf G c), (3, .int (nI o))] (nI_1 _) (by decide) rfl dX9_readSteps_52 rfl ?_
            refine V_goto 3 rfl dX9_readSteps_55 ?_
            exact V_lv [0, 1, 2, 3, 4] rfl (ih (i + 1) n2 S2 p49 I2 (by omega) (by omega) hp49 (by omega) (by omega) h42 (hR1.join hR2 hE2 x5) (fun j hj => (x5 j (by omega)).trans (hS1 j hj)) (hE1.tr hE2 hn1) (hF1.tr hF2) (eq.trans (bd_ok (pSs_o e2 e49))))
          · refine Kq_v (k' := 0) (sl' := 0) rfl rfl ?_
            refine V_iinc 55 0 rfl (nI (i + 1)) [(4, .int (nI (i + 1))), (0, rf G 34), (1, rf G 1), (2, rf G c), (3, .int (nI o))] (nI_1 _) (by decide) rfl dX9_readSteps_52 rfl ?_
            refine V_goto 3 rfl dX9_readSteps_55 ?_
            exact V_lv [0, 1, 2, 3, 4] rfl (hexit _ p2 I2 1 p2 (by decide) (by decide) hp2 hp2 (hF1.tr hF2) (eq.trans (bd_no (pSs_2 e2 e49))))
        · refine Kq_v (k' := 0) (sl' := 0) rfl rfl ?_
          have hT2 := hF2.T hT1
          have kn2 := kd_ne hk2 hk3
          refine V_aload_n 47 2 rfl _ rfl rfl dX9_readSteps_46 rfl ?_
          refine V_bipush 49 (59) rfl dX9_readSteps_47 rfl ?_
          refine V_callV (K' := 0) (S' := 0) 52 1 8 1 [.int 59] mkX8_takeSign lkX9_48 (by decide) rfl rfl (by decide) rfl (Nat.le_of_ble_eq_true rfl) (Nat.le_of_ble_eq_true rfl) (Nat.le_of_ble_eq_true rfl) (Nat.le_of_ble_eq_true rfl) rfl rfl dX9_readSteps_49 rfl (c_X8_takeSign (c := 59) hRK hT2 (by decide) (by decide) (by decide) hp2 (fun _ => ?_) (fun _ e _ => absurd e kn2) (fun e _ => absurd e kn2))
          refine Kq_v (k' := 0) (sl' := 0) rfl rfl ?_
          refine V_iinc 55 0 rfl (nI (i + 1)) [(4, .int (nI (i + 1))), (0, rf G 34), (1, rf G 1), (2, rf G c), (3, .int (nI o))] (nI_1 _) (by decide) rfl dX9_readSteps_52 rfl ?_
          refine V_goto 3 rfl dX9_readSteps_55 ?_
          exact V_lv [0, 1, 2, 3, 4] rfl (hexit _ p2 I2 k2 q2 hk2 hk3 hq2 hp2 (hF1.tr hF2) (eq.trans (bd_no (pSs_1 e2))))
  show V _ _ _ _ _ _ _ _ [(0, rf G 34), (1, rf G 1), (2, rf G c), (3, .int (nI o))] [] _ _ _ _ _
  refine V_iconst 1 (0) rfl dX9_readSteps_0 rfl ?_
  refine V_istore 3 [(4, .int 0), (0, rf G 34), (1, rf G 1), (2, rf G c), (3, .int (nI o))] (by decide) rfl dX9_readSteps_1 rfl ?_
  exact V_lv [0, 1, 2, 3, 4] rfl (L (z + 1) 0 n S p I (by omega) (Nat.zero_le _) hp (Nat.le_refl _) h5 h4 (fun i a b => absurd b (by omega)) (fun _ _ => rfl) EW.rf FrW.rf eX)
theorem c_X9_readStepsF {G : Gx} {d : Nat} {I : FI} {R : FR} {J : FJ} {Q : Po} (hRK : RK R) {t : Nat → Nat} {z : Nat} (hT : TxC I t z) {p : Nat} {fc fp : Int32} {c : Nat} {o : Int32} (hf : ¬ fc = 0) (hq : Q (.inl none) 103 (tp t z I p fc fp) R J) : Cc G mX9_readSteps (d + 1 + 1) 0 0 [rf G 34, rf G 1, rf G c, .int o] 103 (tp t z I p fc fp) R J Q := by
  show V _ _ _ _ _ _ _ _ [(0, rf G 34), (1, rf G 1), (2, rf G c), (3, .int o)] [] _ _ _ _ _
  refine V_iconst 1 (0) rfl dX9_readSteps_0 rfl ?_
  refine V_istore 3 [(4, .int 0), (0, rf G 34), (1, rf G 1), (2, rf G c), (3, .int o)] (by decide) rfl dX9_readSteps_1 rfl ?_
  refine V_iload 5 0 rfl dX9_readSteps_3 rfl ?_
  refine V_sipush 8 (150) rfl dX9_readSteps_5 rfl ?_
  refine V_icmp_ge 58 11 rfl dX9_readSteps_8 rfl (fun c8 => absurd c8 (by decide)) (fun c8 => ?_)
  refine V_aload_n 12 2 rfl _ rfl rfl dX9_readSteps_11 rfl ?_
  refine V_callV (K' := 0) (S' := 0) 15 1 8 0 [] mkX8_isFaulty lkX9_32 (by decide) rfl rfl (by decide) rfl (Nat.le_of_ble_eq_true rfl) (Nat.le_of_ble_eq_true rfl) (Nat.le_of_ble_eq_true rfl) (Nat.le_of_ble_eq_true rfl) rfl rfl dX9_readSteps_12 rfl (c_X8_isFaulty (fun e => absurd e hf) (fun _ => ?_))
  refine Kq_i (k' := 0) (sl' := 0) rfl rfl ?_
  refine V_if_ne 58 18 rfl dX9_readSteps_15 rfl (fun c15 => ?_) (fun c15 => absurd c15 (by decide))
  refine V_ret_v rfl (Nat.le_of_ble_eq_true rfl) (fun h => absurd h (by decide)) (Nat.le_of_ble_eq_true rfl) (hq) dX9_readSteps_58
theorem one_E {I I9 : FI} {n : Nat} {k v w : Int32} (h : FrO2 (up2 (up2 I 34 4 v) 35 n k) I9 n) : EW I (up2 I9 38 n w) n := by
  refine EW.u (fun i hi => ?_) (Or.inr (Nat.le_refl _))
  obtain ⟨a1, a2⟩ := h.2 i (by omega)
  refine ⟨by rw [h.1 35 (by decide) (by decide), up2_s, upd_n (by omega), up2_n _ _ _ (by decide)], by rw [a1, up2_n _ _ _ (by decide), up2_n _ _ _ (by decide)], by rw [a2, up2_n _ _ _ (by decide), up2_n _ _ _ (by decide)], by rw [h.1 38 (by decide) (by decide), up2_n _ _ _ (by decide), up2_n _ _ _ (by decide)]⟩
theorem one_R {I I9 : FI} {n k a b : Nat} {v : Int32} {S : SR} (ha : k ≠ 6 → I9 36 n = nI a) (hb : k = 0 ∨ k = 2 → I9 37 n = nI b) (h : FrO2 (up2 (up2 I 34 4 v) 35 n (nI k)) I9 n) : StR (up2 I9 38 n (nI (n + 1))) n (n + 1) (upS S n (k, a, b, n + 1)) := by
  intro i h1 h2
  have e : i = n := by omega
  subst e
  rw [upS_s]
  refine ⟨by rw [up2_n _ _ _ (by decide), h.1 35 (by decide) (by decide), up2_s]; exact upd_s, fun q => by rw [up2_n _ _ _ (by decide)]; exact ha q, fun q => by rw [up2_n _ _ _ (by decide)]; exact hb q, by rw [up2_s]; exact upd_s⟩
theorem again_E {I I8 : FI} {n : Nat} {v k w x : Int32} (h : EW (up2 (up2 (up2 I 34 4 v) 35 n k) 36 n w) I8 (n + 1)) : EW I (up2 I8 38 n x) n :=
  EW.u ((EW.u (EW.u (EW.u EW.rf (Or.inl rfl)) (Or.inr (Nat.le_refl _))) (Or.inr (Nat.le_refl _))).tr h (Nat.le_succ n)) (Or.inr (Nat.le_refl _))
theorem again_R {I I8 : FI} {n n8 y : Nat} {v : Int32} {S S8 : SR} {s : Nat × Nat × Nat × Nat} (hR : StR I8 (n + 1) n8 S8) (h : EW (up2 (up2 (up2 I 34 4 v) 35 n 7) 36 n (nI y)) I8 (n + 1)) (hS : ∀ i, i < n + 1 → S8 i = upS S n s i) : StR (up2 I8 38 n (nI n8)) n n8 (upS S8 n (7, y, 0, n8)) := by
  intro i h1 h2
  by_cases e : i = n
  · subst e
    rw [upS_s]
    obtain ⟨a1, a2, -, -⟩ := h i (Nat.lt_succ_self i)
    refine ⟨by rw [up2_n _ _ _ (by decide), a1, up2_n _ _ _ (by decide), up2_s]; exact upd_s, fun _ => by rw [up2_n _ _ _ (by decide), a2, up2_s]; exact upd_s, fun q => absurd (show (7 : Nat) = 0 ∨ (7 : Nat) = 2 from q) (by decide), by rw [up2_s]; exact upd_s⟩
  · rw [upS_n e]
    exact (hR i (by omega) h2).cg ⟨by rw [up2_n _ _ _ (by decide)], by rw [up2_n _ _ _ (by decide)], by rw [up2_n _ _ _ (by decide)], by rw [up2_s, upd_n e]⟩
set_option maxHeartbeats 8000000 in
theorem c_X9_readStep0 {G : Gx} {t : Nat → Nat} {z D0 : Nat} {K : CO}  : WCt G (D0 + 20) (6) t z K (pSt (fun _ _ p => .inl (3, p)) t z K) := by
  intro d I R J Q c p n S fp hd hRK hc hT h150 hC hW hpz h5 h4 hk hb
  obtain ⟨m, rfl⟩ : ∃ m, d = m + 20 := ⟨d - 20, by omega⟩
  have h6 := hT.2.1
  have hp := Nat.le_of_lt hpz
  obtain ⟨n1, n2, n3⟩ := nx_z (t := t) hp
  have n4 := n3 hpz
  have nxe : nx t z p = sk t z (enF t z p) := rfl
  have zz := (sk_z (t := t) (enF_z (t := t) hp).2.1).1
  show V _ _ _ _ _ _ _ _ [(0, rf G 34), (1, rf G 1), (2, rf G c), (3, .int 6)] [] _ _ _ _ _
  refine V_aload_n 1 1 rfl _ rfl rfl dX9_readStep_0 rfl ?_
  refine V_callS (K' := 0) (S' := 0) 4 1 [rf G 1] mkX9_stepOf lkX9_52 rfl (Nat.le_of_ble_eq_true rfl) (Nat.le_of_ble_eq_true rfl) (Nat.le_of_ble_eq_true rfl) (Nat.le_of_ble_eq_true rfl) rfl rfl dX9_readStep_1 rfl (c_X9_stepOf hRK hT hp ?_)
  refine Kq_i (k' := 0) (sl' := 0) rfl rfl ?_
  refine V_istore 6 [(4, .int (oI (kwF t z p))), (0, rf G 34), (1, rf G 1), (2, rf G c), (3, .int 6)] (by decide) rfl dX9_readStep_4 rfl ?_
  cases ek : kwF t z p with
  | none =>
    show V _ _ _ _ _ _ _ _ [(4, .int (-1)), (0, rf G 34), (1, rf G 1), (2, rf G c), (3, .int 6)] [] _ _ _ _ _
    refine V_iload 8 0 rfl dX9_readStep_6 rfl ?_
    refine V_iconst 9 (-1) rfl dX9_readStep_8 rfl ?_
    refine V_icmp_eq 21 12 rfl dX9_readStep_9 rfl (fun c9 => ?_) (fun c9 => absurd rfl c9)
    refine V_aload_n 22 2 rfl _ rfl rfl dX9_readStep_21 rfl ?_
    refine V_iconst 23 (1) rfl dX9_readStep_22 rfl ?_
    refine V_callV (K' := 0) (S' := 0) 26 1 8 1 [.int 1] mkX8_fail lkX9_56 (by decide) rfl rfl (by decide) rfl (Nat.le_of_ble_eq_true rfl) (Nat.le_of_ble_eq_true rfl) (Nat.le_of_ble_eq_true rfl) (Nat.le_of_ble_eq_true rfl) rfl rfl dX9_readStep_23 rfl (c_X8_fail (k := 1) hRK hT (fun e => absurd rfl e) (fun _ => ?_))
    refine Kq_v (k' := 0) (sl' := 0) rfl rfl ?_
    refine V_ret_v rfl (Nat.le_of_ble_eq_true rfl) (fun h => absurd h (by decide)) (Nat.le_of_ble_eq_true rfl) (hb 1 p p I (by unfold pSt; rw [ek]) (by decide) (by decide) hp FrW.rf hp) dX9_readStep_26
  | some k =>
    obtain ⟨k7, -, kw, kl⟩ := kw_len hp ek
    by_cases c7 : k = 7
    · subst c7
      show V _ _ _ _ _ _ _ _ [(4, .int 7), (0, rf G 34), (1, rf G 1), (2, rf G c), (3, .int 6)] [] _ _ _ _ _
      refine V_iload 8 0 rfl dX9_readStep_6 rfl ?_
      refine V_iconst 9 (-1) rfl dX9_readStep_8 rfl ?_
      refine V_icmp_eq 21 12 rfl dX9_readStep_9 rfl (fun c9 => absurd c9 (by decide)) (fun c9 => ?_)
      refine V_aload_n 13 1 rfl _ rfl rfl dX9_readStep_12 rfl ?_
      refine V_getI 16 34 9 4 (nI n) (show tp t z _ _ _ _ 34 4 = _ from by rw [tp_n (by decide)]; exact h4) flX9_24 rfl rfl rfl (by decide) dX9_readStep_13 rfl ?_
      refine V_bipush 18 (31) rfl dX9_readStep_16 rfl ?_
      refine V_icmp_lt 27 21 rfl dX9_readStep_18 rfl (fun c18 => ?_) (fun c18 => absurd (nI_lt (b := 31) (by omega) (by decide)) c18)
      refine V_iload 29 0 rfl dX9_readStep_27 rfl ?_
      refine V_bipush 31 (7) rfl dX9_readStep_29 rfl ?_
      refine V_icmp_ne 46 34 rfl dX9_readStep_31 rfl (fun c31 => absurd c31 (by decide)) (fun c31 => ?_)
      refine V_iload_n 35 4 rfl rfl dX9_readStep_34 rfl ?_
      refine V_bipush 37 (6) rfl dX9_readStep_35 rfl ?_
      refine V_icmp_lt 46 40 rfl dX9_readStep_37 rfl (fun c37 => absurd c37 (by decide)) (fun c37 => ?_)
      refine V_aload_n 41 2 rfl _ rfl rfl dX9_readStep_40 rfl ?_
      refine V_iconst 42 (3) rfl dX9_readStep_41 rfl ?_
      refine V_callV (K' := 0) (S' := 0) 45 1 8 1 [.int 3] mkX8_fail lkX9_56 (by decide) rfl rfl (by decide) rfl (Nat.le_of_ble_eq_true rfl) (Nat.le_of_ble_eq_true rfl) (Nat.le_of_ble_eq_true rfl) (Nat.le_of_ble_eq_true rfl) rfl rfl dX9_readStep_42 rfl (c_X8_fail (k := 3) hRK hT (fun e => absurd rfl e) (fun _ => ?_))
      refine Kq_v (k' := 0) (sl' := 0) rfl rfl ?_
      refine V_ret_v rfl (Nat.le_of_ble_eq_true rfl) (fun h => absurd h (by decide)) (Nat.le_of_ble_eq_true rfl) (hb 3 p p I (by unfold pSt; rw [ek]; rfl) (by decide) (by decide) hp FrW.rf hp) dX9_readStep_45
    · have e7 : pSt ((fun _ _ p => .inl (3, p))) t z K n S p = bd (pOps t z K k (nx t z p)) (fun x => .inr ((n + 1, upS S n (k, x.1.1, x.1.2, n + 1)), x.2)) := by unfold pSt; rw [ek]; exact if_neg c7
      show V _ _ _ _ _ _ _ _ [(4, .int (nI k)), (0, rf G 34), (1, rf G 1), (2, rf G c), (3, .int 6)] [] _ _ _ _ _
      refine V_iload 8 0 rfl dX9_readStep_6 rfl ?_
      refine V_iconst 9 (-1) rfl dX9_readStep_8 rfl ?_
      refine V_icmp_eq 21 12 rfl dX9_readStep_9 rfl (fun c9 => absurd c9 (nI_ne (by omega))) (fun c9 => ?_)
      refine V_aload_n 13 1 rfl _ rfl rfl dX9_readStep_12 rfl ?_
      refine V_getI 16 34 9 4 (nI n) (show tp t z _ _ _ _ 34 4 = _ from by rw [tp_n (by decide)]; exact h4) flX9_24 rfl rfl rfl (by decide) dX9_readStep_13 rfl ?_
      refine V_bipush 18 (31) rfl dX9_readStep_16 rfl ?_
      refine V_icmp_lt 27 21 rfl dX9_readStep_18 rfl (fun c18 => ?_) (fun c18 => absurd (nI_lt (b := 31) (by omega) (by decide)) c18)
      refine V_iload 29 0 rfl dX9_readStep_27 rfl ?_
      refine V_bipush 31 (7) rfl dX9_readStep_29 rfl ?_
      refine V_icmp_ne 46 34 rfl dX9_readStep_31 rfl (fun c31 => ?_) (fun c31 => absurd ((nI_eq (b := 7) (by omega) (by decide)).mp c31) c7)
      refine V_aload_n 47 1 rfl _ rfl rfl dX9_readStep_46 rfl ?_
      refine V_getI 50 34 9 4 (nI n) (show tp t z _ _ _ _ 34 4 = _ from by rw [tp_n (by decide)]; exact h4) flX9_24 rfl rfl rfl (by decide) dX9_readStep_47 rfl ?_
      refine V_istore 52 [(5, .int (nI n)), (4, .int (nI k)), (0, rf G 34), (1, rf G 1), (2, rf G c), (3, .int 6)] (by decide) rfl dX9_readStep_50 rfl ?_
      refine V_aload_n 53 2 rfl _ rfl rfl dX9_readStep_52 rfl ?_
      refine V_dup 54 rfl dX9_readStep_53 rfl ?_
      refine V_getI 57 34 9 4 (nI n) (show tp t z _ _ _ _ 34 4 = _ from by rw [tp_n (by decide)]; exact h4) flX9_24 rfl rfl rfl (by decide) dX9_readStep_54 rfl ?_
      refine V_iconst 58 (1) rfl dX9_readStep_57 rfl ?_
      refine V_iadd 59 dX9_readStep_58 rfl ?_
      refine V_rw (nI_add n 1) ?_
      refine V_putI 62 34 9 4 flX9_24 rfl rfl rfl (by decide) rfl dX9_readStep_59 rfl ?_
      rw [tp_up (by omega)]
      refine V_aload_n 63 2 rfl _ rfl rfl dX9_readStep_62 rfl ?_
      refine V_getR 66 34 9 0 35 (hRK 34 0 (by decide) (by decide) (by decide)) flX9_11 rfl rfl rfl (by decide) dX9_readStep_63 rfl ?_
      refine V_iload 68 0 rfl dX9_readStep_66 rfl ?_
      refine V_iload 70 1 rfl dX9_readStep_68 rfl ?_
      refine V_iastN 71 35 31 n (by omega) (by decide) rfl (by decide) dX9_readStep_70 rfl ?_
      rw [tp_up (by omega)]
      refine V_aload_n 72 3 rfl _ rfl rfl dX9_readStep_71 rfl ?_
      refine V_callV (K' := 0) (S' := 0) 75 1 8 0 [] mkX8_next lkX9_60 (by decide) rfl rfl (by decide) rfl (Nat.le_of_ble_eq_true rfl) (Nat.le_of_ble_eq_true rfl) (Nat.le_of_ble_eq_true rfl) (Nat.le_of_ble_eq_true rfl) rfl rfl dX9_readStep_72 rfl (c_X8_next hRK (TxC.up (TxC.up hT (by omega) (by omega)) (by omega) (by omega)) (enF_z hp).2.1 ?_)
      refine Kq_v (k' := 0) (sl' := 0) rfl rfl ?_
      refine V_iload 77 1 rfl dX9_readStep_75 rfl ?_
      refine V_bipush 79 (7) rfl dX9_readStep_77 rfl ?_
      refine V_icmp_ne 120 82 rfl dX9_readStep_79 rfl (fun c79 => ?_) (fun c79 => absurd ((nI_eq (b := 7) (by omega) (by decide)).mp c79) c7)
      refine V_aload_n 121 2 rfl _ rfl rfl dX9_readStep_120 rfl ?_
      refine V_aload_n 122 3 rfl _ rfl rfl dX9_readStep_121 rfl ?_
      refine V_aload_n 123 4 rfl _ rfl rfl dX9_readStep_122 rfl ?_
      refine V_iload 125 0 rfl dX9_readStep_123 rfl ?_
      refine V_callV (K' := 0) (S' := 0) 128 34 9 3 [rf G 1, rf G c, .int (nI n)] mkX9_readOperands lkX9_67 (by decide) rfl rfl (by decide) rfl (Nat.le_of_ble_eq_true rfl) (Nat.le_of_ble_eq_true rfl) (Nat.le_of_ble_eq_true rfl) (Nat.le_of_ble_eq_true rfl) rfl rfl dX9_readStep_125 rfl (c_X9_readOperands (k := k) (n := n) hRK (TxC.up (TxC.up hT (by omega) (by omega)) (by omega) (by omega)) hc (FrW.C (FrW.u (FrW.u FrW.rf (by decide)) (by decide)) hc hC) hW (nx_z hp).2.1 (by omega) (by omega) (by rw [up2_s]; exact upd_s) (fun a9 b9 p9 I9 e9 ha9 hb9 hO9 hp9 => ?_) (fun k9 q9 p9 I9 e9 hk9 hk39 hq9 hO9 hp9 => ?_))
      · refine Kq_v (k' := 0) (sl' := 0) rfl rfl ?_
        have hW9 : FrW _ I9 := fun a ha => hO9.1 a (by omega) (by omega)
        have hT9 := hW9.T (TxC.up (TxC.up hT (by omega) (by omega)) (by omega) (by omega))
        have h49 : I9 34 4 = nI (n + 1) := by rw [hO9.1 34 (by decide) (by decide)]; exact (by rw [up2_n _ _ _ (by decide)]; exact (by rw [up2_s]; exact upd_s))
        refine V_aload_n 129 2 rfl _ rfl rfl dX9_readStep_128 rfl ?_
        refine V_getR 132 34 9 3 38 (hRK 34 3 (by decide) (by decide) (by decide)) flX9_21 rfl rfl rfl (by decide) dX9_readStep_129 rfl ?_
        refine V_iload 134 0 rfl dX9_readStep_132 rfl ?_
        refine V_aload_n 135 2 rfl _ rfl rfl dX9_readStep_134 rfl ?_
        refine V_getI 138 34 9 4 (nI (n + 1)) (show tp t z _ _ _ _ 34 4 = _ from by rw [tp_n (by decide)]; exact h49) flX9_24 rfl rfl rfl (by decide) dX9_readStep_135 rfl ?_
        refine V_iastN 139 38 31 n (by omega) (by decide) rfl (by decide) dX9_readStep_138 rfl ?_
        rw [tp_up (by omega)]
        refine V_ret_v rfl (Nat.le_of_ble_eq_true rfl) (fun h => absurd h (by decide)) (Nat.le_of_ble_eq_true rfl) (hk _ _ _ _ (e7.trans (bd_ok e9)) (by rw [up2_n _ _ _ (by decide)]; exact h49) (one_R ha9 hb9 hO9) (one_E hO9) (FrW.u ((FrW.u (FrW.u FrW.rf (by decide)) (by decide)).tr hW9) (by decide)) hp9) dX9_readStep_139
      · refine Kq_v (k' := 0) (sl' := 0) rfl rfl ?_
        have hW9 : FrW _ I9 := fun a ha => hO9.1 a (by omega) (by omega)
        have hT9 := hW9.T (TxC.up (TxC.up hT (by omega) (by omega)) (by omega) (by omega))
        have h49 : I9 34 4 = nI (n + 1) := by rw [hO9.1 34 (by decide) (by decide)]; exact (by rw [up2_n _ _ _ (by decide)]; exact (by rw [up2_s]; exact upd_s))
        have kn9 := kd_ne hk9 hk39
        refine V_aload_n 129 2 rfl _ rfl rfl dX9_readStep_128 rfl ?_
        refine V_getR 132 34 9 3 38 (hRK 34 3 (by decide) (by decide) (by decide)) flX9_21 rfl rfl rfl (by decide) dX9_readStep_129 rfl ?_
        refine V_iload 134 0 rfl dX9_readStep_132 rfl ?_
        refine V_aload_n 135 2 rfl _ rfl rfl dX9_readStep_134 rfl ?_
        refine V_getI 138 34 9 4 (nI (n + 1)) (show tp t z _ _ _ _ 34 4 = _ from by rw [tp_n (by decide)]; exact h49) flX9_24 rfl rfl rfl (by decide) dX9_readStep_135 rfl ?_
        refine V_iastN 139 38 31 n (by omega) (by decide) rfl (by decide) dX9_readStep_138 rfl ?_
        rw [tp_up (by omega)]
        refine V_ret_v rfl (Nat.le_of_ble_eq_true rfl) (fun h => absurd h (by decide)) (Nat.le_of_ble_eq_true rfl) (hb _ _ _ _ (e7.trans (bd_no e9)) hk9 hk39 hq9 (FrW.u ((FrW.u (FrW.u FrW.rf (by decide)) (by decide)).tr hW9) (by decide)) hp9) dX9_readStep_139
set_option maxHeartbeats 8000000 in
theorem c_X9_readStepS {G : Gx} {t : Nat → Nat} {z D0 : Nat} {K : CO} {bod : Nat → SR → Nat → WR} {lev : Nat} (hlev : lev < 6) (hB : BCt G D0 (6 - lev) t z K bod) (hOkB : ∀ n S p n' S' p', p ≤ z → bod n S p = .inr ((n', S'), p') → n ≤ n' ∧ ∀ i, i < n → S' i = S i) : WCt G (D0 + 20) (6 - (lev + 1)) t z K (pSt (pAg bod t z) t z K) := by
  intro d I R J Q c p n S fp hd hRK hc hT h150 hC hW hpz h5 h4 hk hb
  obtain ⟨m, rfl⟩ : ∃ m, d = m + 20 := ⟨d - 20, by omega⟩
  have h6 := hT.2.1
  have hp := Nat.le_of_lt hpz
  obtain ⟨n1, n2, n3⟩ := nx_z (t := t) hp
  have n4 := n3 hpz
  have nxe : nx t z p = sk t z (enF t z p) := rfl
  have zz := (sk_z (t := t) (enF_z (t := t) hp).2.1).1
  show V _ _ _ _ _ _ _ _ [(0, rf G 34), (1, rf G 1), (2, rf G c), (3, .int (nI (6 - (lev + 1))))] [] _ _ _ _ _
  refine V_aload_n 1 1 rfl _ rfl rfl dX9_readStep_0 rfl ?_
  refine V_callS (K' := 0) (S' := 0) 4 1 [rf G 1] mkX9_stepOf lkX9_52 rfl (Nat.le_of_ble_eq_true rfl) (Nat.le_of_ble_eq_true rfl) (Nat.le_of_ble_eq_true rfl) (Nat.le_of_ble_eq_true rfl) rfl rfl dX9_readStep_1 rfl (c_X9_stepOf hRK hT hp ?_)
  refine Kq_i (k' := 0) (sl' := 0) rfl rfl ?_
  refine V_istore 6 [(4, .int (oI (kwF t z p))), (0, rf G 34), (1, rf G 1), (2, rf G c), (3, .int (nI (6 - (lev + 1))))] (by decide) rfl dX9_readStep_4 rfl ?_
  cases ek : kwF t z p with
  | none =>
    show V _ _ _ _ _ _ _ _ [(4, .int (-1)), (0, rf G 34), (1, rf G 1), (2, rf G c), (3, .int (nI (6 - (lev + 1))))] [] _ _ _ _ _
    refine V_iload 8 0 rfl dX9_readStep_6 rfl ?_
    refine V_iconst 9 (-1) rfl dX9_readStep_8 rfl ?_
    refine V_icmp_eq 21 12 rfl dX9_readStep_9 rfl (fun c9 => ?_) (fun c9 => absurd rfl c9)
    refine V_aload_n 22 2 rfl _ rfl rfl dX9_readStep_21 rfl ?_
    refine V_iconst 23 (1) rfl dX9_readStep_22 rfl ?_
    refine V_callV (K' := 0) (S' := 0) 26 1 8 1 [.int 1] mkX8_fail lkX9_56 (by decide) rfl rfl (by decide) rfl (Nat.le_of_ble_eq_true rfl) (Nat.le_of_ble_eq_true rfl) (Nat.le_of_ble_eq_true rfl) (Nat.le_of_ble_eq_true rfl) rfl rfl dX9_readStep_23 rfl (c_X8_fail (k := 1) hRK hT (fun e => absurd rfl e) (fun _ => ?_))
    refine Kq_v (k' := 0) (sl' := 0) rfl rfl ?_
    refine V_ret_v rfl (Nat.le_of_ble_eq_true rfl) (fun h => absurd h (by decide)) (Nat.le_of_ble_eq_true rfl) (hb 1 p p I (by unfold pSt; rw [ek]) (by decide) (by decide) hp FrW.rf hp) dX9_readStep_26
  | some k =>
    obtain ⟨k7, -, kw, kl⟩ := kw_len hp ek
    by_cases c7 : k = 7
    · subst c7
      have e7 : pSt (pAg bod t z) t z K n S p = pAg bod t z n S p := by unfold pSt; rw [ek]; rfl
      rw [if_pos rfl] at kl
      show V _ _ _ _ _ _ _ _ [(4, .int 7), (0, rf G 34), (1, rf G 1), (2, rf G c), (3, .int (nI (6 - (lev + 1))))] [] _ _ _ _ _
      refine V_iload 8 0 rfl dX9_readStep_6 rfl ?_
      refine V_iconst 9 (-1) rfl dX9_readStep_8 rfl ?_
      refine V_icmp_eq 21 12 rfl dX9_readStep_9 rfl (fun c9 => absurd c9 (by decide)) (fun c9 => ?_)
      refine V_aload_n 13 1 rfl _ rfl rfl dX9_readStep_12 rfl ?_
      refine V_getI 16 34 9 4 (nI n) (show tp t z _ _ _ _ 34 4 = _ from by rw [tp_n (by decide)]; exact h4) flX9_24 rfl rfl rfl (by decide) dX9_readStep_13 rfl ?_
      refine V_bipush 18 (31) rfl dX9_readStep_16 rfl ?_
      refine V_icmp_lt 27 21 rfl dX9_readStep_18 rfl (fun c18 => ?_) (fun c18 => absurd (nI_lt (b := 31) (by omega) (by decide)) c18)
      refine V_iload 29 0 rfl dX9_readStep_27 rfl ?_
      refine V_bipush 31 (7) rfl dX9_readStep_29 rfl ?_
      refine V_icmp_ne 46 34 rfl dX9_readStep_31 rfl (fun c31 => absurd c31 (by decide)) (fun c31 => ?_)
      refine V_iload_n 35 4 rfl rfl dX9_readStep_34 rfl ?_
      refine V_bipush 37 (6) rfl dX9_readStep_35 rfl ?_
      refine V_icmp_lt 46 40 rfl dX9_readStep_37 rfl (fun c37 => ?_) (fun c37 => absurd (nI_lt (b := 6) (show 6 - (lev + 1) < 6 by omega) (by decide)) c37)
      refine V_aload_n 47 1 rfl _ rfl rfl dX9_readStep_46 rfl ?_
      refine V_getI 50 34 9 4 (nI n) (show tp t z _ _ _ _ 34 4 = _ from by rw [tp_n (by decide)]; exact h4) flX9_24 rfl rfl rfl (by decide) dX9_readStep_47 rfl ?_
      refine V_istore 52 [(5, .int (nI n)), (4, .int 7), (0, rf G 34), (1, rf G 1), (2, rf G c), (3, .int (nI (6 - (lev + 1))))] (by decide) rfl dX9_readStep_50 rfl ?_
      refine V_aload_n 53 2 rfl _ rfl rfl dX9_readStep_52 rfl ?_
      refine V_dup 54 rfl dX9_readStep_53 rfl ?_
      refine V_getI 57 34 9 4 (nI n) (show tp t z _ _ _ _ 34 4 = _ from by rw [tp_n (by decide)]; exact h4) flX9_24 rfl rfl rfl (by decide) dX9_readStep_54 rfl ?_
      refine V_iconst 58 (1) rfl dX9_readStep_57 rfl ?_
      refine V_iadd 59 dX9_readStep_58 rfl ?_
      refine V_rw (nI_add n 1) ?_
      refine V_putI 62 34 9 4 flX9_24 rfl rfl rfl (by decide) rfl dX9_readStep_59 rfl ?_
      rw [tp_up (by omega)]
      refine V_aload_n 63 2 rfl _ rfl rfl dX9_readStep_62 rfl ?_
      refine V_getR 66 34 9 0 35 (hRK 34 0 (by decide) (by decide) (by decide)) flX9_11 rfl rfl rfl (by decide) dX9_readStep_63 rfl ?_
      refine V_iload 68 0 rfl dX9_readStep_66 rfl ?_
      refine V_iload 70 1 rfl dX9_readStep_68 rfl ?_
      refine V_iastN 71 35 31 n (by omega) (by decide) rfl (by decide) dX9_readStep_70 rfl ?_
      rw [tp_up (by omega)]
      refine V_aload_n 72 3 rfl _ rfl rfl dX9_readStep_71 rfl ?_
      refine V_callV (K' := 0) (S' := 0) 75 1 8 0 [] mkX8_next lkX9_60 (by decide) rfl rfl (by decide) rfl (Nat.le_of_ble_eq_true rfl) (Nat.le_of_ble_eq_true rfl) (Nat.le_of_ble_eq_true rfl) (Nat.le_of_ble_eq_true rfl) rfl rfl dX9_readStep_72 rfl (c_X8_next hRK (TxC.up (TxC.up hT (by omega) (by omega)) (by omega) (by omega)) (enF_z hp).2.1 ?_)
      refine Kq_v (k' := 0) (sl' := 0) rfl rfl ?_
      refine V_iload 77 1 rfl dX9_readStep_75 rfl ?_
      refine V_bipush 79 (7) rfl dX9_readStep_77 rfl ?_
      refine V_icmp_ne 120 82 rfl dX9_readStep_79 rfl (fun c79 => absurd c79 (by decide)) (fun c79 => ?_)
      refine V_aload_n 83 2 rfl _ rfl rfl dX9_readStep_82 rfl ?_
      refine V_getR 86 34 9 1 36 (hRK 34 1 (by decide) (by decide) (by decide)) flX9_15 rfl rfl rfl (by decide) dX9_readStep_83 rfl ?_
      refine V_iload 88 0 rfl dX9_readStep_86 rfl ?_
      refine V_aload_n 89 3 rfl _ rfl rfl dX9_readStep_88 rfl ?_
      refine V_iconst 90 (0) rfl dX9_readStep_89 rfl ?_
      refine V_bipush 92 (30) rfl dX9_readStep_90 rfl ?_
      refine V_callV (K' := 0) (S' := 0) 95 1 8 2 [.int 0, .int 30] mkX8_takeNumber lkX9_63 (by decide) rfl rfl (by decide) rfl (Nat.le_of_ble_eq_true rfl) (Nat.le_of_ble_eq_true rfl) (Nat.le_of_ble_eq_true rfl) (Nat.le_of_ble_eq_true rfl) rfl rfl dX9_readStep_92 rfl (c_X8_takeNumber (lo := 0) (cnt := 31) hRK (TxC.up (TxC.up hT (by omega) (by omega)) (by omega) (by omega)) (by decide) (hh_lit 30 (by decide)) (nx_z hp).2.1 (fun e => absurd rfl e) (fun v92 p92 _ e92 => ?_) (fun k92 _ e92 => ?_))
      · refine Kq_i (k' := 0) (sl' := 0) rfl rfl ?_
        obtain ⟨-, -, lo92, hi92, -, -, lt92, hp92⟩ := pNum_ok e92
        refine V_iastN 96 36 31 n (by omega) (by decide) rfl (by decide) dX9_readStep_95 rfl ?_
        rw [tp_up (by omega)]
        refine V_aload_n 97 3 rfl _ rfl rfl dX9_readStep_96 rfl ?_
        refine V_bipush 99 (91) rfl dX9_readStep_97 rfl ?_
        refine V_callV (K' := 0) (S' := 0) 102 1 8 1 [.int 91] mkX8_takeSign lkX9_48 (by decide) rfl rfl (by decide) rfl (Nat.le_of_ble_eq_true rfl) (Nat.le_of_ble_eq_true rfl) (Nat.le_of_ble_eq_true rfl) (Nat.le_of_ble_eq_true rfl) rfl rfl dX9_readStep_99 rfl (c_X8_takeSign (c := 91) hRK (TxC.up (TxC.up (TxC.up hT (by omega) (by omega)) (by omega) (by omega)) (by omega) (by omega)) (by decide) (by decide) (by decide) hp92 (fun e => absurd rfl e) (fun p99 _ e99 => ?_) (fun _ e99 => ?_))
        · refine Kq_v (k' := 0) (sl' := 0) rfl rfl ?_
          obtain ⟨-, -, -, lt99, hp99⟩ := pSig_ok e99
          refine V_aload_n 103 2 rfl _ rfl rfl dX9_readStep_102 rfl ?_
          refine V_aload_n 104 3 rfl _ rfl rfl dX9_readStep_103 rfl ?_
          refine V_aload_n 105 4 rfl _ rfl rfl dX9_readStep_104 rfl ?_
          refine V_iload_n 106 5 rfl rfl dX9_readStep_105 rfl ?_
          refine V_iconst 107 (1) rfl dX9_readStep_106 rfl ?_
          refine V_iadd 108 dX9_readStep_107 rfl ?_
          refine V_rw (show _ = nI (6 - lev) from by rw [nI_1]; congr 1; omega) ?_
          refine V_callV (K' := 0) (S' := 0) 111 34 9 3 [rf G 1, rf G c, .int (nI (6 - lev))] mkX9_readSteps lkX9_28 (by decide) rfl rfl (by decide) rfl (Nat.le_of_ble_eq_true rfl) (Nat.le_of_ble_eq_true rfl) (Nat.le_of_ble_eq_true rfl) (Nat.le_of_ble_eq_true rfl) rfl rfl dX9_readStep_108 rfl (hB _ _ _ _ _ c p99 (n + 1) (upS S n (7, v92, 0, 0)) _ (by omega) hRK hc (TxC.up (TxC.up (TxC.up hT (by omega) (by omega)) (by omega) (by omega)) (by omega) (by omega)) h150 (FrW.C (FrW.u (FrW.u (FrW.u FrW.rf (by decide)) (by decide)) (by decide)) hc hC) hW hp99 (by omega) (by rw [up2_n _ _ _ (by decide)]; exact (by rw [up2_n _ _ _ (by decide)]; exact (by rw [up2_s]; exact upd_s))) (fun n8 S8 p8 I8 e8 h48 hR8 hE8 hF8 hp8 => ?_) (fun k8 q8 p8 I8 e8 hk8 hk38 hq8 hF8 hp8 => ?_) (fun p8 I8 e8 hz8 hp8 hF8 => ?_))
          · refine Kq_v (k' := 0) (sl' := 0) rfl rfl ?_
            have hT8 := hF8.T (TxC.up (TxC.up (TxC.up hT (by omega) (by omega)) (by omega) (by omega)) (by omega) (by omega))
            obtain ⟨y1, y2⟩ := hOkB _ _ _ _ _ _ hp99 e8
            refine V_aload_n 112 3 rfl _ rfl rfl dX9_readStep_111 rfl ?_
            refine V_bipush 114 (93) rfl dX9_readStep_112 rfl ?_
            refine V_callV (K' := 0) (S' := 0) 117 1 8 1 [.int 93] mkX8_takeSign lkX9_48 (by decide) rfl rfl (by decide) rfl (Nat.le_of_ble_eq_true rfl) (Nat.le_of_ble_eq_true rfl) (Nat.le_of_ble_eq_true rfl) (Nat.le_of_ble_eq_true rfl) rfl rfl dX9_readStep_114 rfl (c_X8_takeSign (c := 93) hRK hT8 (by decide) (by decide) (by decide) hp8 (fun e => absurd rfl e) (fun p114 _ e114 => ?_) (fun _ e114 => ?_))
            · refine Kq_v (k' := 0) (sl' := 0) rfl rfl ?_
              obtain ⟨-, -, -, lt114, hp114⟩ := pSig_ok e114
              refine V_goto 128 rfl dX9_readStep_117 ?_
              refine V_aload_n 129 2 rfl _ rfl rfl dX9_readStep_128 rfl ?_
              refine V_getR 132 34 9 3 38 (hRK 34 3 (by decide) (by decide) (by decide)) flX9_21 rfl rfl rfl (by decide) dX9_readStep_129 rfl ?_
              refine V_iload 134 0 rfl dX9_readStep_132 rfl ?_
              refine V_aload_n 135 2 rfl _ rfl rfl dX9_readStep_134 rfl ?_
              refine V_getI 138 34 9 4 (nI n8) (show tp t z _ _ _ _ 34 4 = _ from by rw [tp_n (by decide)]; exact h48) flX9_24 rfl rfl rfl (by decide) dX9_readStep_135 rfl ?_
              refine V_iastN 139 38 31 n (by omega) (by decide) rfl (by decide) dX9_readStep_138 rfl ?_
              rw [tp_up (by omega)]
              refine V_ret_v rfl (Nat.le_of_ble_eq_true rfl) (fun h => absurd h (by decide)) (Nat.le_of_ble_eq_true rfl) (hk _ _ _ _ (e7.trans ((bd_ok e92).trans ((bd_ok e99).trans ((bd_ok e8).trans (bd_ok e114))))) (by rw [up2_n _ _ _ (by decide)]; exact h48) (again_R hR8 hE8 y2) (again_E hE8) (FrW.u ((FrW.u (FrW.u (FrW.u FrW.rf (by decide)) (by decide)) (by decide)).tr hF8) (by decide)) hp114) dX9_readStep_139
            · refine Kq_v (k' := 0) (sl' := 0) rfl rfl ?_
              refine V_goto 128 rfl dX9_readStep_117 ?_
              refine V_aload_n 129 2 rfl _ rfl rfl dX9_readStep_128 rfl ?_
              refine V_getR 132 34 9 3 38 (hRK 34 3 (by decide) (by decide) (by decide)) flX9_21 rfl rfl rfl (by decide) dX9_readStep_129 rfl ?_
              refine V_iload 134 0 rfl dX9_readStep_132 rfl ?_
              refine V_aload_n 135 2 rfl _ rfl rfl dX9_readStep_134 rfl ?_
              refine V_getI 138 34 9 4 (nI n8) (show tp t z _ _ _ _ 34 4 = _ from by rw [tp_n (by decide)]; exact h48) flX9_24 rfl rfl rfl (by decide) dX9_readStep_135 rfl ?_
              refine V_iastN 139 38 31 n (by omega) (by decide) rfl (by decide) dX9_readStep_138 rfl ?_
              rw [tp_up (by omega)]
              refine V_ret_v rfl (Nat.le_of_ble_eq_true rfl) (fun h => absurd h (by decide)) (Nat.le_of_ble_eq_true rfl) (hb 1 p8 _ _ (e7.trans ((bd_ok e92).trans ((bd_ok e99).trans ((bd_ok e8).trans (bd_no e114))))) (by decide) (by decide) hp8 (FrW.u ((FrW.u (FrW.u (FrW.u FrW.rf (by decide)) (by decide)) (by decide)).tr hF8) (by decide)) hp8) dX9_readStep_139
          · refine Kq_v (k' := 0) (sl' := 0) rfl rfl ?_
            have hT8 := hF8.T (TxC.up (TxC.up (TxC.up hT (by omega) (by omega)) (by omega) (by omega)) (by omega) (by omega))
            have kn8 := kd_ne hk8 hk38
            refine V_aload_n 112 3 rfl _ rfl rfl dX9_readStep_111 rfl ?_
            refine V_bipush 114 (93) rfl dX9_readStep_112 rfl ?_
            refine V_callV (K' := 0) (S' := 0) 117 1 8 1 [.int 93] mkX8_takeSign lkX9_48 (by decide) rfl rfl (by decide) rfl (Nat.le_of_ble_eq_true rfl) (Nat.le_of_ble_eq_true rfl) (Nat.le_of_ble_eq_true rfl) (Nat.le_of_ble_eq_true rfl) rfl rfl dX9_readStep_114 rfl (c_X8_takeSign (c := 93) hRK hT8 (by decide) (by decide) (by decide) hp8 (fun _ => ?_) (fun _ e _ => absurd e kn8) (fun e _ => absurd e kn8))
            refine Kq_v (k' := 0) (sl' := 0) rfl rfl ?_
            refine V_goto 128 rfl dX9_readStep_117 ?_
            refine V_aload_n 129 2 rfl _ rfl rfl dX9_readStep_128 rfl ?_
            refine V_getR 132 34 9 3 38 (hRK 34 3 (by decide) (by decide) (by decide)) flX9_21 rfl rfl rfl (by decide) dX9_readStep_129 rfl ?_
            refine V_iload 134 0 rfl dX9_readStep_132 rfl ?_
            refine V_aload_n 135 2 rfl _ rfl rfl dX9_readStep_134 rfl ?_
            refine V_getI 138 34 9 4 (I8 34 4) (show tp t z _ _ _ _ 34 4 = _ from by rw [tp_n (by decide)]) flX9_24 rfl rfl rfl (by decide) dX9_readStep_135 rfl ?_
            refine V_iastN 139 38 31 n (by omega) (by decide) rfl (by decide) dX9_readStep_138 rfl ?_
            rw [tp_up (by omega)]
            refine V_ret_v rfl (Nat.le_of_ble_eq_true rfl) (fun h => absurd h (by decide)) (Nat.le_of_ble_eq_true rfl) (hb _ _ _ _ (e7.trans ((bd_ok e92).trans ((bd_ok e99).trans (bd_no e8)))) hk8 hk38 hq8 (FrW.u ((FrW.u (FrW.u (FrW.u FrW.rf (by decide)) (by decide)) (by decide)).tr hF8) (by decide)) hp8) dX9_readStep_139
          · refine Kq_v (k' := 0) (sl' := 0) rfl rfl ?_
            have hT8 := hF8.T (TxC.up (TxC.up (TxC.up hT (by omega) (by omega)) (by omega) (by omega)) (by omega) (by omega))
            refine V_aload_n 112 3 rfl _ rfl rfl dX9_readStep_111 rfl ?_
            refine V_bipush 114 (93) rfl dX9_readStep_112 rfl ?_
            refine V_callV (K' := 0) (S' := 0) 117 1 8 1 [.int 93] mkX8_takeSign lkX9_48 (by decide) rfl rfl (by decide) rfl (Nat.le_of_ble_eq_true rfl) (Nat.le_of_ble_eq_true rfl) (Nat.le_of_ble_eq_true rfl) (Nat.le_of_ble_eq_true rfl) rfl rfl dX9_readStep_114 rfl (c_X8_takeSign (c := 93) hRK hT8 (by decide) (by decide) (by decide) hp8 (fun e => absurd rfl e) (fun p9 _ e9 => absurd (pSig_ok e9).1 (by omega)) (fun _ e9 => ?_))
            refine Kq_v (k' := 0) (sl' := 0) rfl rfl ?_
            refine V_goto 128 rfl dX9_readStep_117 ?_
            refine V_aload_n 129 2 rfl _ rfl rfl dX9_readStep_128 rfl ?_
            refine V_getR 132 34 9 3 38 (hRK 34 3 (by decide) (by decide) (by decide)) flX9_21 rfl rfl rfl (by decide) dX9_readStep_129 rfl ?_
            refine V_iload 134 0 rfl dX9_readStep_132 rfl ?_
            refine V_aload_n 135 2 rfl _ rfl rfl dX9_readStep_134 rfl ?_
            refine V_getI 138 34 9 4 (I8 34 4) (show tp t z _ _ _ _ 34 4 = _ from by rw [tp_n (by decide)]) flX9_24 rfl rfl rfl (by decide) dX9_readStep_135 rfl ?_
            refine V_iastN 139 38 31 n (by omega) (by decide) rfl (by decide) dX9_readStep_138 rfl ?_
            rw [tp_up (by omega)]
            refine V_ret_v rfl (Nat.le_of_ble_eq_true rfl) (fun h => absurd h (by decide)) (Nat.le_of_ble_eq_true rfl) (hb 1 p8 _ _ (e7.trans ((bd_ok e92).trans ((bd_ok e99).trans (bd_no e8)))) (by decide) (by decide) hp8 (FrW.u ((FrW.u (FrW.u (FrW.u FrW.rf (by decide)) (by decide)) (by decide)).tr hF8) (by decide)) hp8) dX9_readStep_139
        · refine Kq_v (k' := 0) (sl' := 0) rfl rfl ?_
          refine V_aload_n 103 2 rfl _ rfl rfl dX9_readStep_102 rfl ?_
          refine V_aload_n 104 3 rfl _ rfl rfl dX9_readStep_103 rfl ?_
          refine V_aload_n 105 4 rfl _ rfl rfl dX9_readStep_104 rfl ?_
          refine V_iload_n 106 5 rfl rfl dX9_readStep_105 rfl ?_
          refine V_iconst 107 (1) rfl dX9_readStep_106 rfl ?_
          refine V_iadd 108 dX9_readStep_107 rfl ?_
          refine V_rw (show _ = nI (6 - lev) from by rw [nI_1]; congr 1; omega) ?_
          refine V_callV (K' := 0) (S' := 0) 111 34 9 3 [rf G 1, rf G c, .int (nI (6 - lev))] mkX9_readSteps lkX9_28 (by decide) rfl rfl (by decide) rfl (Nat.le_of_ble_eq_true rfl) (Nat.le_of_ble_eq_true rfl) (Nat.le_of_ble_eq_true rfl) (Nat.le_of_ble_eq_true rfl) rfl rfl dX9_readStep_108 rfl (c_X9_readStepsF hRK (TxC.up (TxC.up (TxC.up hT (by omega) (by omega)) (by omega) (by omega)) (by omega) (by omega)) (show ¬ (1 : Int32) = 0 by decide) ?_)
          refine Kq_v (k' := 0) (sl' := 0) rfl rfl ?_
          refine V_aload_n 112 3 rfl _ rfl rfl dX9_readStep_111 rfl ?_
          refine V_bipush 114 (93) rfl dX9_readStep_112 rfl ?_
          refine V_callV (K' := 0) (S' := 0) 117 1 8 1 [.int 93] mkX8_takeSign lkX9_48 (by decide) rfl rfl (by decide) rfl (Nat.le_of_ble_eq_true rfl) (Nat.le_of_ble_eq_true rfl) (Nat.le_of_ble_eq_true rfl) (Nat.le_of_ble_eq_true rfl) rfl rfl dX9_readStep_114 rfl (c_X8_takeSign (c := 93) hRK (TxC.up (TxC.up (TxC.up hT (by omega) (by omega)) (by omega) (by omega)) (by omega) (by omega)) (by decide) (by decide) (by decide) hp92 (fun _ => ?_) (fun _ e _ => absurd e (show ¬ (1 : Int32) = 0 by decide)) (fun e _ => absurd e (show ¬ (1 : Int32) = 0 by decide)))
          refine Kq_v (k' := 0) (sl' := 0) rfl rfl ?_
          refine V_goto 128 rfl dX9_readStep_117 ?_
          refine V_aload_n 129 2 rfl _ rfl rfl dX9_readStep_128 rfl ?_
          refine V_getR 132 34 9 3 38 (hRK 34 3 (by decide) (by decide) (by decide)) flX9_21 rfl rfl rfl (by decide) dX9_readStep_129 rfl ?_
          refine V_iload 134 0 rfl dX9_readStep_132 rfl ?_
          refine V_aload_n 135 2 rfl _ rfl rfl dX9_readStep_134 rfl ?_
          refine V_getI 138 34 9 4 (nI (n + 1)) (show tp t z _ _ _ _ 34 4 = _ from by rw [tp_n (by decide)]; exact (by rw [up2_n _ _ _ (by decide)]; exact (by rw [up2_n _ _ _ (by decide)]; exact (by rw [up2_s]; exact upd_s)))) flX9_24 rfl rfl rfl (by decide) dX9_readStep_135 rfl ?_
          refine V_iastN 139 38 31 n (by omega) (by decide) rfl (by decide) dX9_readStep_138 rfl ?_
          rw [tp_up (by omega)]
          refine V_ret_v rfl (Nat.le_of_ble_eq_true rfl) (fun h => absurd h (by decide)) (Nat.le_of_ble_eq_true rfl) (hb 1 _ _ _ (e7.trans ((bd_ok e92).trans (bd_no e99))) (by decide) (by decide) hp92 (FrW.u (FrW.u (FrW.u (FrW.u FrW.rf (by decide)) (by decide)) (by decide)) (by decide)) hp92) dX9_readStep_139
      · refine Kq_i (k' := 0) (sl' := 0) rfl rfl ?_
        have kk92 := pNum_k e92
        have kne92 := kd_ne kk92.1 kk92.2
        refine V_iastN 96 36 31 n (by omega) (by decide) rfl (by decide) dX9_readStep_95 rfl ?_
        rw [tp_up (by omega)]
        refine V_aload_n 97 3 rfl _ rfl rfl dX9_readStep_96 rfl ?_
        refine V_bipush 99 (91) rfl dX9_readStep_97 rfl ?_
        refine V_callV (K' := 0) (S' := 0) 102 1 8 1 [.int 91] mkX8_takeSign lkX9_48 (by decide) rfl rfl (by decide) rfl (Nat.le_of_ble_eq_true rfl) (Nat.le_of_ble_eq_true rfl) (Nat.le_of_ble_eq_true rfl) (Nat.le_of_ble_eq_true rfl) rfl rfl dX9_readStep_99 rfl (c_X8_takeSign (c := 91) hRK (TxC.up (TxC.up (TxC.up hT (by omega) (by omega)) (by omega) (by omega)) (by omega) (by omega)) (by decide) (by decide) (by decide) (nx_z hp).2.1 (fun _ => ?_) (fun _ e _ => absurd e kne92) (fun e _ => absurd e kne92))
        refine Kq_v (k' := 0) (sl' := 0) rfl rfl ?_
        refine V_aload_n 103 2 rfl _ rfl rfl dX9_readStep_102 rfl ?_
        refine V_aload_n 104 3 rfl _ rfl rfl dX9_readStep_103 rfl ?_
        refine V_aload_n 105 4 rfl _ rfl rfl dX9_readStep_104 rfl ?_
        refine V_iload_n 106 5 rfl rfl dX9_readStep_105 rfl ?_
        refine V_iconst 107 (1) rfl dX9_readStep_106 rfl ?_
        refine V_iadd 108 dX9_readStep_107 rfl ?_
        refine V_rw (show _ = nI (6 - lev) from by rw [nI_1]; congr 1; omega) ?_
        refine V_callV (K' := 0) (S' := 0) 111 34 9 3 [rf G 1, rf G c, .int (nI (6 - lev))] mkX9_readSteps lkX9_28 (by decide) rfl rfl (by decide) rfl (Nat.le_of_ble_eq_true rfl) (Nat.le_of_ble_eq_true rfl) (Nat.le_of_ble_eq_true rfl) (Nat.le_of_ble_eq_true rfl) rfl rfl dX9_readStep_108 rfl (c_X9_readStepsF hRK (TxC.up (TxC.up (TxC.up hT (by omega) (by omega)) (by omega) (by omega)) (by omega) (by omega)) kne92 ?_)
        refine Kq_v (k' := 0) (sl' := 0) rfl rfl ?_
        refine V_aload_n 112 3 rfl _ rfl rfl dX9_readStep_111 rfl ?_
        refine V_bipush 114 (93) rfl dX9_readStep_112 rfl ?_
        refine V_callV (K' := 0) (S' := 0) 117 1 8 1 [.int 93] mkX8_takeSign lkX9_48 (by decide) rfl rfl (by decide) rfl (Nat.le_of_ble_eq_true rfl) (Nat.le_of_ble_eq_true rfl) (Nat.le_of_ble_eq_true rfl) (Nat.le_of_ble_eq_true rfl) rfl rfl dX9_readStep_114 rfl (c_X8_takeSign (c := 93) hRK (TxC.up (TxC.up (TxC.up hT (by omega) (by omega)) (by omega) (by omega)) (by omega) (by omega)) (by decide) (by decide) (by decide) (nx_z hp).2.1 (fun _ => ?_) (fun _ e _ => absurd e kne92) (fun e _ => absurd e kne92))
        refine Kq_v (k' := 0) (sl' := 0) rfl rfl ?_
        refine V_goto 128 rfl dX9_readStep_117 ?_
        refine V_aload_n 129 2 rfl _ rfl rfl dX9_readStep_128 rfl ?_
        refine V_getR 132 34 9 3 38 (hRK 34 3 (by decide) (by decide) (by decide)) flX9_21 rfl rfl rfl (by decide) dX9_readStep_129 rfl ?_
        refine V_iload 134 0 rfl dX9_readStep_132 rfl ?_
        refine V_aload_n 135 2 rfl _ rfl rfl dX9_readStep_134 rfl ?_
        refine V_getI 138 34 9 4 (nI (n + 1)) (show tp t z _ _ _ _ 34 4 = _ from by rw [tp_n (by decide)]; exact (by rw [up2_n _ _ _ (by decide)]; exact (by rw [up2_n _ _ _ (by decide)]; exact (by rw [up2_s]; exact upd_s)))) flX9_24 rfl rfl rfl (by decide) dX9_readStep_135 rfl ?_
        refine V_iastN 139 38 31 n (by omega) (by decide) rfl (by decide) dX9_readStep_138 rfl ?_
        rw [tp_up (by omega)]
        refine V_ret_v rfl (Nat.le_of_ble_eq_true rfl) (fun h => absurd h (by decide)) (Nat.le_of_ble_eq_true rfl) (hb _ _ _ _ (e7.trans (bd_no e92)) kk92.1 kk92.2 n2 (FrW.u (FrW.u (FrW.u (FrW.u FrW.rf (by decide)) (by decide)) (by decide)) (by decide)) (nx_z hp).2.1) dX9_readStep_139
    · have e7 : pSt (pAg bod t z) t z K n S p = bd (pOps t z K k (nx t z p)) (fun x => .inr ((n + 1, upS S n (k, x.1.1, x.1.2, n + 1)), x.2)) := by unfold pSt; rw [ek]; exact if_neg c7
      show V _ _ _ _ _ _ _ _ [(4, .int (nI k)), (0, rf G 34), (1, rf G 1), (2, rf G c), (3, .int (nI (6 - (lev + 1))))] [] _ _ _ _ _
      refine V_iload 8 0 rfl dX9_readStep_6 rfl ?_
      refine V_iconst 9 (-1) rfl dX9_readStep_8 rfl ?_
      refine V_icmp_eq 21 12 rfl dX9_readStep_9 rfl (fun c9 => absurd c9 (nI_ne (by omega))) (fun c9 => ?_)
      refine V_aload_n 13 1 rfl _ rfl rfl dX9_readStep_12 rfl ?_
      refine V_getI 16 34 9 4 (nI n) (show tp t z _ _ _ _ 34 4 = _ from by rw [tp_n (by decide)]; exact h4) flX9_24 rfl rfl rfl (by decide) dX9_readStep_13 rfl ?_
      refine V_bipush 18 (31) rfl dX9_readStep_16 rfl ?_
      refine V_icmp_lt 27 21 rfl dX9_readStep_18 rfl (fun c18 => ?_) (fun c18 => absurd (nI_lt (b := 31) (by omega) (by decide)) c18)
      refine V_iload 29 0 rfl dX9_readStep_27 rfl ?_
      refine V_bipush 31 (7) rfl dX9_readStep_29 rfl ?_
      refine V_icmp_ne 46 34 rfl dX9_readStep_31 rfl (fun c31 => ?_) (fun c31 => absurd ((nI_eq (b := 7) (by omega) (by decide)).mp c31) c7)
      refine V_aload_n 47 1 rfl _ rfl rfl dX9_readStep_46 rfl ?_
      refine V_getI 50 34 9 4 (nI n) (show tp t z _ _ _ _ 34 4 = _ from by rw [tp_n (by decide)]; exact h4) flX9_24 rfl rfl rfl (by decide) dX9_readStep_47 rfl ?_
      refine V_istore 52 [(5, .int (nI n)), (4, .int (nI k)), (0, rf G 34), (1, rf G 1), (2, rf G c), (3, .int (nI (6 - (lev + 1))))] (by decide) rfl dX9_readStep_50 rfl ?_
      refine V_aload_n 53 2 rfl _ rfl rfl dX9_readStep_52 rfl ?_
      refine V_dup 54 rfl dX9_readStep_53 rfl ?_
      refine V_getI 57 34 9 4 (nI n) (show tp t z _ _ _ _ 34 4 = _ from by rw [tp_n (by decide)]; exact h4) flX9_24 rfl rfl rfl (by decide) dX9_readStep_54 rfl ?_
      refine V_iconst 58 (1) rfl dX9_readStep_57 rfl ?_
      refine V_iadd 59 dX9_readStep_58 rfl ?_
      refine V_rw (nI_add n 1) ?_
      refine V_putI 62 34 9 4 flX9_24 rfl rfl rfl (by decide) rfl dX9_readStep_59 rfl ?_
      rw [tp_up (by omega)]
      refine V_aload_n 63 2 rfl _ rfl rfl dX9_readStep_62 rfl ?_
      refine V_getR 66 34 9 0 35 (hRK 34 0 (by decide) (by decide) (by decide)) flX9_11 rfl rfl rfl (by decide) dX9_readStep_63 rfl ?_
      refine V_iload 68 0 rfl dX9_readStep_66 rfl ?_
      refine V_iload 70 1 rfl dX9_readStep_68 rfl ?_
      refine V_iastN 71 35 31 n (by omega) (by decide) rfl (by decide) dX9_readStep_70 rfl ?_
      rw [tp_up (by omega)]
      refine V_aload_n 72 3 rfl _ rfl rfl dX9_readStep_71 rfl ?_
      refine V_callV (K' := 0) (S' := 0) 75 1 8 0 [] mkX8_next lkX9_60 (by decide) rfl rfl (by decide) rfl (Nat.le_of_ble_eq_true rfl) (Nat.le_of_ble_eq_true rfl) (Nat.le_of_ble_eq_true rfl) (Nat.le_of_ble_eq_true rfl) rfl rfl dX9_readStep_72 rfl (c_X8_next hRK (TxC.up (TxC.up hT (by omega) (by omega)) (by omega) (by omega)) (enF_z hp).2.1 ?_)
      refine Kq_v (k' := 0) (sl' := 0) rfl rfl ?_
      refine V_iload 77 1 rfl dX9_readStep_75 rfl ?_
      refine V_bipush 79 (7) rfl dX9_readStep_77 rfl ?_
      refine V_icmp_ne 120 82 rfl dX9_readStep_79 rfl (fun c79 => ?_) (fun c79 => absurd ((nI_eq (b := 7) (by omega) (by decide)).mp c79) c7)
      refine V_aload_n 121 2 rfl _ rfl rfl dX9_readStep_120 rfl ?_
      refine V_aload_n 122 3 rfl _ rfl rfl dX9_readStep_121 rfl ?_
      refine V_aload_n 123 4 rfl _ rfl rfl dX9_readStep_122 rfl ?_
      refine V_iload 125 0 rfl dX9_readStep_123 rfl ?_
      refine V_callV (K' := 0) (S' := 0) 128 34 9 3 [rf G 1, rf G c, .int (nI n)] mkX9_readOperands lkX9_67 (by decide) rfl rfl (by decide) rfl (Nat.le_of_ble_eq_true rfl) (Nat.le_of_ble_eq_true rfl) (Nat.le_of_ble_eq_true rfl) (Nat.le_of_ble_eq_true rfl) rfl rfl dX9_readStep_125 rfl (c_X9_readOperands (k := k) (n := n) hRK (TxC.up (TxC.up hT (by omega) (by omega)) (by omega) (by omega)) hc (FrW.C (FrW.u (FrW.u FrW.rf (by decide)) (by decide)) hc hC) hW (nx_z hp).2.1 (by omega) (by omega) (by rw [up2_s]; exact upd_s) (fun a9 b9 p9 I9 e9 ha9 hb9 hO9 hp9 => ?_) (fun k9 q9 p9 I9 e9 hk9 hk39 hq9 hO9 hp9 => ?_))
      · refine Kq_v (k' := 0) (sl' := 0) rfl rfl ?_
        have hW9 : FrW _ I9 := fun a ha => hO9.1 a (by omega) (by omega)
        have hT9 := hW9.T (TxC.up (TxC.up hT (by omega) (by omega)) (by omega) (by omega))
        have h49 : I9 34 4 = nI (n + 1) := by rw [hO9.1 34 (by decide) (by decide)]; exact (by rw [up2_n _ _ _ (by decide)]; exact (by rw [up2_s]; exact upd_s))
        refine V_aload_n 129 2 rfl _ rfl rfl dX9_readStep_128 rfl ?_
        refine V_getR 132 34 9 3 38 (hRK 34 3 (by decide) (by decide) (by decide)) flX9_21 rfl rfl rfl (by decide) dX9_readStep_129 rfl ?_
        refine V_iload 134 0 rfl dX9_readStep_132 rfl ?_
        refine V_aload_n 135 2 rfl _ rfl rfl dX9_readStep_134 rfl ?_
        refine V_getI 138 34 9 4 (nI (n + 1)) (show tp t z _ _ _ _ 34 4 = _ from by rw [tp_n (by decide)]; exact h49) flX9_24 rfl rfl rfl (by decide) dX9_readStep_135 rfl ?_
        refine V_iastN 139 38 31 n (by omega) (by decide) rfl (by decide) dX9_readStep_138 rfl ?_
        rw [tp_up (by omega)]
        refine V_ret_v rfl (Nat.le_of_ble_eq_true rfl) (fun h => absurd h (by decide)) (Nat.le_of_ble_eq_true rfl) (hk _ _ _ _ (e7.trans (bd_ok e9)) (by rw [up2_n _ _ _ (by decide)]; exact h49) (one_R ha9 hb9 hO9) (one_E hO9) (FrW.u ((FrW.u (FrW.u FrW.rf (by decide)) (by decide)).tr hW9) (by decide)) hp9) dX9_readStep_139
      · refine Kq_v (k' := 0) (sl' := 0) rfl rfl ?_
        have hW9 : FrW _ I9 := fun a ha => hO9.1 a (by omega) (by omega)
        have hT9 := hW9.T (TxC.up (TxC.up hT (by omega) (by omega)) (by omega) (by omega))
        have h49 : I9 34 4 = nI (n + 1) := by rw [hO9.1 34 (by decide) (by decide)]; exact (by rw [up2_n _ _ _ (by decide)]; exact (by rw [up2_s]; exact upd_s))
        have kn9 := kd_ne hk9 hk39
        refine V_aload_n 129 2 rfl _ rfl rfl dX9_readStep_128 rfl ?_
        refine V_getR 132 34 9 3 38 (hRK 34 3 (by decide) (by decide) (by decide)) flX9_21 rfl rfl rfl (by decide) dX9_readStep_129 rfl ?_
        refine V_iload 134 0 rfl dX9_readStep_132 rfl ?_
        refine V_aload_n 135 2 rfl _ rfl rfl dX9_readStep_134 rfl ?_
        refine V_getI 138 34 9 4 (nI (n + 1)) (show tp t z _ _ _ _ 34 4 = _ from by rw [tp_n (by decide)]; exact h49) flX9_24 rfl rfl rfl (by decide) dX9_readStep_135 rfl ?_
        refine V_iastN 139 38 31 n (by omega) (by decide) rfl (by decide) dX9_readStep_138 rfl ?_
        rw [tp_up (by omega)]
        refine V_ret_v rfl (Nat.le_of_ble_eq_true rfl) (fun h => absurd h (by decide)) (Nat.le_of_ble_eq_true rfl) (hb _ _ _ _ (e7.trans (bd_no e9)) hk9 hk39 hq9 (FrW.u ((FrW.u (FrW.u FrW.rf (by decide)) (by decide)).tr hW9) (by decide)) hp9) dX9_readStep_139
def dWk : Nat → Nat
  | 0 => 20
  | lev + 1 => dWk lev + 10 + 20
theorem c_X9_step {G : Gx} {t : Nat → Nat} {z : Nat} {K : CO} : ∀ lev, lev ≤ 6 → WCt G (dWk lev) (6 - lev) t z K (pLv t z K lev) := by
  intro lev
  induction lev with
  | zero => intro _; exact c_X9_readStep0 (D0 := 0)
  | succ lev ih =>
    intro h
    exact c_X9_readStepS (by omega) (c_X9_readSteps (by omega) (by omega) (pLv_ok lev) (ih (by omega))) (fun n S p n' S' p' hp e => by
      obtain ⟨-, -, -, a1, -, a2, -⟩ := pBo_ok (pSs_ok (pLv_ok lev)) _ _ _ _ _ _ _ hp e
      exact ⟨a1, a2⟩)
theorem c_X9_steps {G : Gx} {t : Nat → Nat} {z : Nat} {K : CO} : BTt G (dWk 6 + 10) 0 t z K (fun n S p => pTo (pSs (pLv t z K 6) t z) z (z + 1) n S p) := c_X9_readStepsT rfl (pLv_ok 6) (c_X9_step 6 (Nat.le_refl _))
