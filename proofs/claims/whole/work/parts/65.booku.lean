theorem bkE_ok {t : Nat → Nat} {z : Nat} {bk : Nat → Option Nat} {n p h v q : Nat} (e : bkE t z bk n p = .inr ((h, v), q)) : n < 8 ∧ h < 24 ∧ v ≤ 99 ∧ bk h = none ∧ q ≤ z := by
  unfold bkE at e
  cases e1 : pNum t z 0 24 p with
  | inl x => rw [bd_no e1] at e; cases e
  | inr x =>
    rw [bd_ok e1] at e
    obtain ⟨x1, x2⟩ := x
    by_cases c1 : bk x1 = none
    · replace e := (if_neg (fun q => q c1)).symm.trans e
      by_cases c2 : 8 ≤ n
      · replace e := (if_pos c2).symm.trans e; cases e
      replace e := (if_neg c2).symm.trans e
      cases e2 : pNum t z 0 100 x2 with
      | inl y => replace e := (bd_no e2).symm.trans e; cases e
      | inr y =>
        replace e := (bd_ok e2).symm.trans e
        obtain ⟨y1, y2⟩ := y
        cases e3 : pSig t z 59 y2 with
        | inl w => replace e := (bd_no e3).symm.trans e; cases e
        | inr w =>
          replace e := (bd_ok e3).symm.trans e
          cases e
          have a1 := pNum_ok e1
          have a2 := pNum_ok e2
          have a3 := pSig_ok e3
          exact ⟨by omega, a1.2.2.2.1, by have := a2.2.2.2.1; omega, c1, a3.2.2.2.2⟩
    · replace e := (if_pos c1).symm.trans e; cases e
/-- all that a BOOK's text may tell -/
theorem bkL_ok {t : Nat → Nat} {z : Nat} : ∀ g n bk p n' bk', bkL t z g n bk p = .inr (n', bk') → n ≤ 8 → (∀ k v, bk k = some v → k < 24 ∧ v ≤ 99) → n' ≤ 8 ∧ ∀ k v, bk' k = some v → k < 24 ∧ v ≤ 99 := by
  intro g
  induction g with
  | zero => intro n bk p n' bk' e; cases e
  | succ g ih =>
    intro n bk p n' bk' e hn hb
    rw [bkL] at e
    split at e
    · cases e; exact ⟨hn, hb⟩
    · cases e1 : bkE t z bk n p with
      | inl x => rw [bd_no e1] at e; cases e
      | inr x =>
        rw [bd_ok e1] at e
        obtain ⟨⟨h, v⟩, q⟩ := x
        obtain ⟨a1, a2, a3, a4, -⟩ := bkE_ok e1
        refine ih _ _ _ _ _ e (by omega) (fun k u eu => ?_)
        have eu : (if k = h then some v else bk k) = some u := eu
        by_cases c : k = h
        · rw [if_pos c] at eu; cases eu; exact ⟨by omega, a3⟩
        · rw [if_neg c] at eu; exact hb k u eu
set_option maxHeartbeats 8000000 in
theorem c_X1_readText {G : Gx} {d : Nat} {I : FI} {R : FR} {J : FJ} {Q : Po} (hRK : RK R) {t : Nat → Nat} {z : Nat} (hT : TxC I t z) {b : Nat} (hb : b = 63 ∨ b = 66) {fp : Int32} (hk : ∀ n bk p' I', bkF t z = .inr (n, bk) → BookC I' b n bk → FrB I I' b → p' ≤ z → Q (.inl (some (.int 1))) 103 (tp t z I' p' 0 fp) R J) (hbd : ∀ k q p' I', bkF t z = .inl (k, q) → 0 < k → k ≤ 3 → FrB I I' b → p' ≤ z → Q (.inl (some (.int 0))) 103 (tp t z I' p' (nI k) (nI q)) R J) : Cc G mX1_readText (d + 20) 0 0 [rf G b, rf G 1] 103 (tp t z I (sk t z 0) 0 fp) R J Q := by
  obtain ⟨lyb0, lyb1, lyb2⟩ := ly_b hb
  have exit : ∀ (n' : Int32) p1 I2 k q, 0 < k → k ≤ 3 → FrB I I2 b → p1 ≤ z → bkF t z = .inl (k, q) → V G mX1_readText (d + 20) 0 0 0 0 7 [(2, .int n'), (0, rf G b), (1, rf G 1)] [] 103 (tp t z I2 p1 (nI k) (nI q)) R J Q := by
    intro n' p1 I2 k q hk1 hk3 hx2 hp1 e2
    have hT2 := hx2.T hb hT
    have kn := kd_ne hk1 hk3
    refine V_iload_n 8 0 rfl rfl dX1_readText_7 rfl ?_
    refine V_bipush 10 (8) rfl dX1_readText_8 rfl ?_
    refine V_icmp_gt 38 13 rfl dX1_readText_10 rfl (fun c10 => ?_) (fun c10 => ?_)
    · refine V_aload_n 39 2 rfl _ rfl rfl dX1_readText_38 rfl ?_
      refine V_callV (K' := 0) (S' := 0) 42 1 8 0 [] mkX8_isFaulty lkX1_28 (by decide) rfl rfl (by decide) rfl (Nat.le_of_ble_eq_true rfl) (Nat.le_of_ble_eq_true rfl) (Nat.le_of_ble_eq_true rfl) (Nat.le_of_ble_eq_true rfl) rfl rfl dX1_readText_39 rfl (c_X8_isFaulty (fun e => absurd e kn) (fun _ => ?_))
      refine Kq_i (k' := 0) (sl' := 0) rfl rfl ?_
      refine V_if_ne 49 45 rfl dX1_readText_42 rfl (fun c42 => ?_) (fun c42 => absurd c42 (by decide))
      refine V_iconst 50 (0) rfl dX1_readText_49 rfl ?_
      refine V_ret_i rfl (by first | rfl | decide) (Nat.le_of_ble_eq_true rfl) (fun h => absurd h (by decide)) (Nat.le_of_ble_eq_true rfl) (hbd _ _ _ _ e2 hk1 hk3 hx2 hp1) dX1_readText_50
    · refine V_aload_n 14 2 rfl _ rfl rfl dX1_readText_13 rfl ?_
      refine V_callV (K' := 0) (S' := 0) 17 1 8 0 [] mkX8_isAtEnd lkX1_22 (by decide) rfl rfl (by decide) rfl (Nat.le_of_ble_eq_true rfl) (Nat.le_of_ble_eq_true rfl) (Nat.le_of_ble_eq_true rfl) (Nat.le_of_ble_eq_true rfl) rfl rfl dX1_readText_14 rfl (c_X8_isAtEnd hRK hT2 (fun z14 => ?_) (fun z14 => ?_))
      · refine Kq_i (k' := 0) (sl' := 0) rfl rfl ?_
        refine V_if_ne 38 20 rfl dX1_readText_17 rfl (fun c17 => ?_) (fun c17 => absurd c17 (by decide))
        refine V_aload_n 39 2 rfl _ rfl rfl dX1_readText_38 rfl ?_
        refine V_callV (K' := 0) (S' := 0) 42 1 8 0 [] mkX8_isFaulty lkX1_28 (by decide) rfl rfl (by decide) rfl (Nat.le_of_ble_eq_true rfl) (Nat.le_of_ble_eq_true rfl) (Nat.le_of_ble_eq_true rfl) (Nat.le_of_ble_eq_true rfl) rfl rfl dX1_readText_39 rfl (c_X8_isFaulty (fun e => absurd e kn) (fun _ => ?_))
        refine Kq_i (k' := 0) (sl' := 0) rfl rfl ?_
        refine V_if_ne 49 45 rfl dX1_readText_42 rfl (fun c42 => ?_) (fun c42 => absurd c42 (by decide))
        refine V_iconst 50 (0) rfl dX1_readText_49 rfl ?_
        refine V_ret_i rfl (by first | rfl | decide) (Nat.le_of_ble_eq_true rfl) (fun h => absurd h (by decide)) (Nat.le_of_ble_eq_true rfl) (hbd _ _ _ _ e2 hk1 hk3 hx2 hp1) dX1_readText_50
      · refine Kq_i (k' := 0) (sl' := 0) rfl rfl ?_
        refine V_if_ne 38 20 rfl dX1_readText_17 rfl (fun c17 => absurd c17 (by decide)) (fun c17 => ?_)
        refine V_aload_n 21 2 rfl _ rfl rfl dX1_readText_20 rfl ?_
        refine V_callV (K' := 0) (S' := 0) 24 1 8 0 [] mkX8_isFaulty lkX1_28 (by decide) rfl rfl (by decide) rfl (Nat.le_of_ble_eq_true rfl) (Nat.le_of_ble_eq_true rfl) (Nat.le_of_ble_eq_true rfl) (Nat.le_of_ble_eq_true rfl) rfl rfl dX1_readText_21 rfl (c_X8_isFaulty (fun e => absurd e kn) (fun _ => ?_))
        refine Kq_i (k' := 0) (sl' := 0) rfl rfl ?_
        refine V_if_ne 38 27 rfl dX1_readText_24 rfl (fun c24 => ?_) (fun c24 => absurd c24 (by decide))
        refine V_aload_n 39 2 rfl _ rfl rfl dX1_readText_38 rfl ?_
        refine V_callV (K' := 0) (S' := 0) 42 1 8 0 [] mkX8_isFaulty lkX1_28 (by decide) rfl rfl (by decide) rfl (Nat.le_of_ble_eq_true rfl) (Nat.le_of_ble_eq_true rfl) (Nat.le_of_ble_eq_true rfl) (Nat.le_of_ble_eq_true rfl) rfl rfl dX1_readText_39 rfl (c_X8_isFaulty (fun e => absurd e kn) (fun _ => ?_))
        refine Kq_i (k' := 0) (sl' := 0) rfl rfl ?_
        refine V_if_ne 49 45 rfl dX1_readText_42 rfl (fun c42 => ?_) (fun c42 => absurd c42 (by decide))
        refine V_iconst 50 (0) rfl dX1_readText_49 rfl ?_
        refine V_ret_i rfl (by first | rfl | decide) (Nat.le_of_ble_eq_true rfl) (fun h => absurd h (by decide)) (Nat.le_of_ble_eq_true rfl) (hbd _ _ _ _ e2 hk1 hk3 hx2 hp1) dX1_readText_50
  have L : ∀ g n bk p I1, g + n = 10 → n ≤ 8 → p ≤ z → BookC I1 b n bk → FrB I I1 b → bkF t z = bkL t z g n bk p → V G mX1_readText (d + 20) 0 0 0 0 7 [(2, .int (nI n)), (0, rf G b), (1, rf G 1)] [] 103 (tp t z I1 p 0 fp) R J Q := by
    intro g
    induction g with
    | zero => intro n bk p I1 h1 h2; omega
    | succ g ih =>
      intro n bk p I1 hgn hn hp hB hx eq
      have hT1 := hx.T hb hT
      rw [bkL] at eq
      by_cases cz : z ≤ p
      · refine V_iload_n 8 0 rfl rfl dX1_readText_7 rfl ?_
        refine V_bipush 10 (8) rfl dX1_readText_8 rfl ?_
        refine V_icmp_gt 38 13 rfl dX1_readText_10 rfl (fun c10 => absurd c10 (nI_nlt (a := 8) hn (by decide))) (fun c10 => ?_)
        refine V_aload_n 14 2 rfl _ rfl rfl dX1_readText_13 rfl ?_
        refine V_callV (K' := 0) (S' := 0) 17 1 8 0 [] mkX8_isAtEnd lkX1_22 (by decide) rfl rfl (by decide) rfl (Nat.le_of_ble_eq_true rfl) (Nat.le_of_ble_eq_true rfl) (Nat.le_of_ble_eq_true rfl) (Nat.le_of_ble_eq_true rfl) rfl rfl dX1_readText_14 rfl (c_X8_isAtEnd hRK hT1 (fun _ => ?_) (fun q => absurd q (by omega)))
        refine Kq_i (k' := 0) (sl' := 0) rfl rfl ?_
        refine V_if_ne 38 20 rfl dX1_readText_17 rfl (fun c17 => ?_) (fun c17 => absurd c17 (by decide))
        refine V_aload_n 39 2 rfl _ rfl rfl dX1_readText_38 rfl ?_
        refine V_callV (K' := 0) (S' := 0) 42 1 8 0 [] mkX8_isFaulty lkX1_28 (by decide) rfl rfl (by decide) rfl (Nat.le_of_ble_eq_true rfl) (Nat.le_of_ble_eq_true rfl) (Nat.le_of_ble_eq_true rfl) (Nat.le_of_ble_eq_true rfl) rfl rfl dX1_readText_39 rfl (c_X8_isFaulty (fun _ => ?_) (fun e => absurd rfl e))
        refine Kq_i (k' := 0) (sl' := 0) rfl rfl ?_
        refine V_if_ne 49 45 rfl dX1_readText_42 rfl (fun c42 => absurd c42 (by decide)) (fun c42 => ?_)
        refine V_iconst 46 (1) rfl dX1_readText_45 rfl ?_
        refine V_goto 50 rfl dX1_readText_46 ?_
        refine V_ret_i rfl (by first | rfl | decide) (Nat.le_of_ble_eq_true rfl) (fun h => absurd h (by decide)) (Nat.le_of_ble_eq_true rfl) (hk _ _ _ _ (eq.trans (if_pos cz)) hB hx hp) dX1_readText_50
      · rw [if_neg cz] at eq
        refine V_iload_n 8 0 rfl rfl dX1_readText_7 rfl ?_
        refine V_bipush 10 (8) rfl dX1_readText_8 rfl ?_
        refine V_icmp_gt 38 13 rfl dX1_readText_10 rfl (fun c10 => absurd c10 (nI_nlt (a := 8) hn (by decide))) (fun c10 => ?_)
        refine V_aload_n 14 2 rfl _ rfl rfl dX1_readText_13 rfl ?_
        refine V_callV (K' := 0) (S' := 0) 17 1 8 0 [] mkX8_isAtEnd lkX1_22 (by decide) rfl rfl (by decide) rfl (Nat.le_of_ble_eq_true rfl) (Nat.le_of_ble_eq_true rfl) (Nat.le_of_ble_eq_true rfl) (Nat.le_of_ble_eq_true rfl) rfl rfl dX1_readText_14 rfl (c_X8_isAtEnd hRK hT1 (fun q => absurd q cz) (fun _ => ?_))
        refine Kq_i (k' := 0) (sl' := 0) rfl rfl ?_
        refine V_if_ne 38 20 rfl dX1_readText_17 rfl (fun c17 => absurd c17 (by decide)) (fun c17 => ?_)
        refine V_aload_n 21 2 rfl _ rfl rfl dX1_readText_20 rfl ?_
        refine V_callV (K' := 0) (S' := 0) 24 1 8 0 [] mkX8_isFaulty lkX1_28 (by decide) rfl rfl (by decide) rfl (Nat.le_of_ble_eq_true rfl) (Nat.le_of_ble_eq_true rfl) (Nat.le_of_ble_eq_true rfl) (Nat.le_of_ble_eq_true rfl) rfl rfl dX1_readText_21 rfl (c_X8_isFaulty (fun _ => ?_) (fun e => absurd rfl e))
        refine Kq_i (k' := 0) (sl' := 0) rfl rfl ?_
        refine V_if_ne 38 27 rfl dX1_readText_24 rfl (fun c24 => absurd c24 (by decide)) (fun c24 => ?_)
        refine V_aload_n 28 1 rfl _ rfl rfl dX1_readText_27 rfl ?_
        refine V_aload_n 29 2 rfl _ rfl rfl dX1_readText_28 rfl ?_
        refine V_callV (K' := 0) (S' := 0) 32 b 1 1 [rf G 1] mkX1_readEntry lkX1_31 (by decide) rfl (ly_b hb).1 (by omega) rfl (Nat.le_of_ble_eq_true rfl) (Nat.le_of_ble_eq_true rfl) (Nat.le_of_ble_eq_true rfl) (Nat.le_of_ble_eq_true rfl) rfl rfl dX1_readText_29 rfl (c_X1_readEntry hRK hT1 hb hB hp (fun h2 v2 p2 I2 e2 hB2 hx2 hp2 => ?_) (fun k2 q2 p2 e2 hk2 hk3 hp2 => ?_))
        · refine Kq_v (k' := 0) (sl' := 0) rfl rfl ?_
          refine V_iinc 35 0 rfl (nI (n + 1)) [(2, .int (nI (n + 1))), (0, rf G b), (1, rf G 1)] (nI_1 _) (by decide) rfl dX1_readText_32 rfl ?_
          refine V_goto 7 rfl dX1_readText_35 ?_
          exact V_lv [0, 1, 2] rfl (ih (n + 1) _ p2 I2 (by omega) (by have := (bkE_ok e2).1; omega) hp2 hB2 (hx.tr hx2) (eq.trans (bd_ok e2)))
        · refine Kq_v (k' := 0) (sl' := 0) rfl rfl ?_
          refine V_iinc 35 0 rfl (nI (n + 1)) [(2, .int (nI (n + 1))), (0, rf G b), (1, rf G 1)] (nI_1 _) (by decide) rfl dX1_readText_32 rfl ?_
          refine V_goto 7 rfl dX1_readText_35 ?_
          exact V_lv [0, 1, 2] rfl (exit _ p2 I1 k2 q2 hk2 hk3 hx hp2 (eq.trans (bd_no e2)))
  show V _ _ _ _ _ _ _ _ [(0, rf G b), (1, rf G 1)] [] _ _ _ _ _
  refine V_aload_n 1 0 rfl _ rfl rfl dX1_readText_0 rfl ?_
  refine V_iconst 2 (0) rfl dX1_readText_1 rfl ?_
  refine V_putI 5 b 1 2 flX1_18 rfl (ly_b hb).1 rfl (by omega) rfl dX1_readText_2 rfl ?_
  rw [tp_up (by omega)]
  refine V_iconst 6 (0) rfl dX1_readText_5 rfl ?_
  refine V_istore_n 7 [(2, .int 0), (0, rf G b), (1, rf G 1)] (by decide) rfl rfl dX1_readText_6 rfl ?_
  exact V_lv [0, 1, 2] rfl (L 10 0 _ _ _ rfl (by decide) (sk_z (Nat.zero_le z)).2.1 ⟨by decide, by rw [up2_s]; exact upd_s, fun _ => 0, fun _ => 0, fun i hi => absurd hi (Nat.not_lt_zero _), fun h v e => by cases e⟩ (fun a ha => by rw [up2_n _ _ _ (by omega)]) rfl)
