theorem FrC.tr {I I1 I2 : FI} {o : Nat} (h : FrC I I1 o) (h2 : FrC I1 I2 o) : FrC I I2 o := fun a ha => (h2 a ha).trans (h a ha)
theorem Flg.home {D : DV} (h : Flg D) (m : Nat) (hm : m < 6) : Flg (dHome D m) := by
  unfold dHome; split
  · exact h
  · exact (h.u (Or.inl (by omega))).u (Or.inl (by omega))
theorem Flg.die0 {D : DV} (h : Flg D) (m : Nat) (hm : m < 6) : Flg (dDie0 D m) := Flg.home ((h.u (Or.inr rfl)).u (Or.inl (by omega))) m hm
theorem Flg.die {D : DV} (h : Flg D) (m : Nat) (hm : m < 6) (k : Option Nat) (hk : ∀ j, k = some j → j < 6) : Flg (dDie D m k) := by
  unfold dDie
  cases k with
  | none => exact h.die0 m hm
  | some j =>
    have := hk j rfl
    dsimp only
    split
    · exact (h.die0 m hm).u (Or.inl (by omega))
    · exact h.die0 m hm
def bstF (D : DV) : Nat → Int32 × Int32
  | 0 => (-1, 0)
  | m + 1 => if (bstF D m).2 < D (24 + m) then (nI m, D (24 + m)) else bstF D m
def gvF (D : DV) (b s : Int32) : Nat → Int32
  | 0 => 0
  | m + 1 => gvF D b s m + (if (s >>> (nI m &&& 31)) &&& 1 = 1 then (if b < D (24 + m) then b else D (24 + m)) else 0)
def lvF (g : Int32 → Int32) (n : Int32) : Nat → Int32 → Int32 → Int32
  | 0, lo, _ => lo
  | k + 1, lo, hi => if hi ≤ lo then lo else if n < g ((lo + hi + 1) / 2) then lvF g n k lo ((lo + hi + 1) / 2 - 1) else lvF g n k ((lo + hi + 1) / 2) hi
theorem c_X3_goHome_18_A {G : Gx} {d : Nat} {I : FI} {R : FR} {J : FJ} {Q : Po} (hRK : RK R) {D : DV} {m : Nat} (hD : DayC I 18 D) (hm : m < 6) (hq : ∀ v I', DayC I' 18 (dHome D m) → FrC I I' 18 → Q (.inl (some (.int v))) 103 I' R J) : Cc G mX3_goHome d 0 0 [rf G 18, .int (nI m)] 103 I R J Q :=
  c_X3_goHome_18 hRK hD hm (fun e => hq 0 I (by rw [dHome, if_pos e]; exact hD) FrC.rf) (fun e I' h1 h2 => hq 1 I' h1 h2)
set_option maxHeartbeats 4000000 in
theorem c_X3_die_18 {G : Gx} {d : Nat} {I : FI} {R : FR} {J : FJ} {Q : Po} (hRK : RK R) {D : DV} {m : Nat} {k : Option Nat} (hk : ∀ j, k = some j → j < 6) (hD : DayC I 18 D) (hF : Flg D) (hm : m < 6) (h0 : D (30 + m) = 0 → Q (.inl (some (.int 0))) 103 I R J) (h1 : D (30 + m) = 1 → ∀ I', DayC I' 18 (dDie D m k) → FrC I I' 18 → Q (.inl (some (.int 1))) 103 I' R J) : Cc G mX3_die (d + 1) 0 0 [rf G 18, .int (nI m), .int (oI k)] 103 I R J Q := by
  have hF2 : Flg (dDie0 D m) := hF.die0 m hm
  cases k with
  | none =>
    show V _ _ _ _ _ _ _ _ [(0, rf G 18), (1, .int (nI m)), (2, .int (-1))] [] _ _ _ _ _
    refine V_aload_n 1 0 rfl _ rfl rfl dX3_die_0 rfl ?_
    refine V_iload_n 2 1 rfl rfl dX3_die_1 rfl ?_
    refine V_callV (K' := 0) (S' := 0) 5 18 3 1 [.int (nI m)] mkX3_lives lkX3_72 (by decide) rfl rfl (by decide) rfl (Nat.le_of_ble_eq_true rfl) (Nat.le_of_ble_eq_true rfl) (Nat.le_of_ble_eq_true rfl) (Nat.le_of_ble_eq_true rfl) rfl rfl dX3_die_2 rfl (c_X3_lives_18 hRK hD hF hm (fun e1 => ?_) (fun e1 => ?_))
    · refine Kq_i (k' := 0) (sl' := 0) rfl rfl ?_
      refine V_if_ne 10 8 rfl dX3_die_5 rfl (fun c5 => ?_) (fun c5 => absurd c5 (by decide))
      refine V_aload_n 11 0 rfl _ rfl rfl dX3_die_10 rfl ?_
      refine V_getR 14 18 3 1 20 (hRK 18 1 (by decide) (by decide) (by decide)) flX3_15 rfl rfl rfl (by decide) dX3_die_11 rfl ?_
      refine V_iload_n 15 1 rfl rfl dX3_die_14 rfl ?_
      refine V_ialdN 16 20 6 m (D m) (hD.2.1 m hm) (by omega) (by decide) rfl (by decide) dX3_die_15 rfl ?_
      refine V_istore_n 17 [(3, .int (D m)), (0, rf G 18), (1, .int (nI m)), (2, .int (-1))] (by decide) rfl rfl dX3_die_16 rfl ?_
      refine V_aload_n 18 1 rfl _ rfl rfl dX3_die_17 rfl ?_
      refine V_dup 19 rfl dX3_die_18 rfl ?_
      refine V_getI 22 18 3 8 (livB D 6) hD.2.2.2.2.2.2.2.2 flX3_60 rfl rfl rfl (by decide) dX3_die_19 rfl ?_
      refine V_iconst 23 (1) rfl dX3_die_22 rfl ?_
      refine V_iload_n 24 2 rfl rfl dX3_die_23 rfl ?_
      refine V_ishl 25 dX3_die_24 rfl ?_
      refine V_iconst 26 (-1) rfl dX3_die_25 rfl ?_
      refine V_ixor 27 dX3_die_26 rfl ?_
      refine V_iand 28 dX3_die_27 rfl ?_
      refine V_rw ((livB_off hF hm).symm) ?_
      refine V_putI 31 18 3 8 flX3_60 rfl rfl rfl (by decide) rfl dX3_die_28 rfl ?_
      refine V_aload_n 32 1 rfl _ rfl rfl dX3_die_31 rfl ?_
      refine V_getR 35 18 3 1 20 (hRK 18 1 (by decide) (by decide) (by decide)) flX3_15 rfl rfl rfl (by decide) dX3_die_32 rfl ?_
      refine V_iload_n 36 2 rfl rfl dX3_die_35 rfl ?_
      refine V_iconst 37 (-1) rfl dX3_die_36 rfl ?_
      refine V_iastN 38 20 6 m (by omega) (by decide) rfl (by decide) dX3_die_37 rfl ?_
      refine V_aload_n 39 1 rfl _ rfl rfl dX3_die_38 rfl ?_
      refine V_iload_n 40 2 rfl rfl dX3_die_39 rfl ?_
      refine V_callV (K' := 0) (S' := 0) 43 18 3 1 [.int (nI m)] mkX3_goHome lkX3_80 (by decide) rfl rfl (by decide) rfl (Nat.le_of_ble_eq_true rfl) (Nat.le_of_ble_eq_true rfl) (Nat.le_of_ble_eq_true rfl) (Nat.le_of_ble_eq_true rfl) rfl rfl dX3_die_40 rfl (c_X3_goHome_18_A hRK (DayC_u2 (DayC_lv (w := 0) hD hm rfl) hm) hm (fun v I1 hD1 hFr => ?_))
      refine Kq_i (k' := 0) (sl' := 0) rfl rfl ?_
      refine V_pop 44 rfl dX3_die_43 rfl ?_
      refine V_iload_n 45 3 rfl rfl dX3_die_44 rfl ?_
      refine V_iconst 46 (-1) rfl dX3_die_45 rfl ?_
      refine V_icmp_eq 74 49 rfl dX3_die_46 rfl (fun c46 => ?_) (fun c46 => absurd c46 (by decide))
      refine V_iconst 75 (1) rfl dX3_die_74 rfl ?_
      refine V_ret_i rfl (by first | rfl | decide) (Nat.le_refl _) (fun h => absurd h (by decide)) (Nat.le_refl _) (h1 e1 I1 hD1 (((FrC.rf.up (by decide) (by decide)).up (by decide) (by decide)).tr hFr)) dX3_die_75
    · refine Kq_i (k' := 0) (sl' := 0) rfl rfl ?_
      refine V_if_ne 10 8 rfl dX3_die_5 rfl (fun c5 => absurd c5 (by decide)) (fun c5 => ?_)
      refine V_iconst 9 (0) rfl dX3_die_8 rfl ?_
      refine V_ret_i rfl (by first | rfl | decide) (Nat.le_refl _) (fun h => absurd h (by decide)) (Nat.le_refl _) (h0 e1) dX3_die_9
  | some j =>
    show V _ _ _ _ _ _ _ _ [(0, rf G 18), (1, .int (nI m)), (2, .int (nI j))] [] _ _ _ _ _
    refine V_aload_n 1 0 rfl _ rfl rfl dX3_die_0 rfl ?_
    refine V_iload_n 2 1 rfl rfl dX3_die_1 rfl ?_
    refine V_callV (K' := 0) (S' := 0) 5 18 3 1 [.int (nI m)] mkX3_lives lkX3_72 (by decide) rfl rfl (by decide) rfl (Nat.le_of_ble_eq_true rfl) (Nat.le_of_ble_eq_true rfl) (Nat.le_of_ble_eq_true rfl) (Nat.le_of_ble_eq_true rfl) rfl rfl dX3_die_2 rfl (c_X3_lives_18 hRK hD hF hm (fun e1 => ?_) (fun e1 => ?_))
    · refine Kq_i (k' := 0) (sl' := 0) rfl rfl ?_
      refine V_if_ne 10 8 rfl dX3_die_5 rfl (fun c5 => ?_) (fun c5 => absurd c5 (by decide))
      refine V_aload_n 11 0 rfl _ rfl rfl dX3_die_10 rfl ?_
      refine V_getR 14 18 3 1 20 (hRK 18 1 (by decide) (by decide) (by decide)) flX3_15 rfl rfl rfl (by decide) dX3_die_11 rfl ?_
      refine V_iload_n 15 1 rfl rfl dX3_die_14 rfl ?_
      refine V_ialdN 16 20 6 m (D m) (hD.2.1 m hm) (by omega) (by decide) rfl (by decide) dX3_die_15 rfl ?_
      refine V_istore_n 17 [(3, .int (D m)), (0, rf G 18), (1, .int (nI m)), (2, .int (nI j))] (by decide) rfl rfl dX3_die_16 rfl ?_
      refine V_aload_n 18 1 rfl _ rfl rfl dX3_die_17 rfl ?_
      refine V_dup 19 rfl dX3_die_18 rfl ?_
      refine V_getI 22 18 3 8 (livB D 6) hD.2.2.2.2.2.2.2.2 flX3_60 rfl rfl rfl (by decide) dX3_die_19 rfl ?_
      refine V_iconst 23 (1) rfl dX3_die_22 rfl ?_
      refine V_iload_n 24 2 rfl rfl dX3_die_23 rfl ?_
      refine V_ishl 25 dX3_die_24 rfl ?_
      refine V_iconst 26 (-1) rfl dX3_die_25 rfl ?_
      refine V_ixor 27 dX3_die_26 rfl ?_
      refine V_iand 28 dX3_die_27 rfl ?_
      refine V_rw ((livB_off hF hm).symm) ?_
      refine V_putI 31 18 3 8 flX3_60 rfl rfl rfl (by decide) rfl dX3_die_28 rfl ?_
      refine V_aload_n 32 1 rfl _ rfl rfl dX3_die_31 rfl ?_
      refine V_getR 35 18 3 1 20 (hRK 18 1 (by decide) (by decide) (by decide)) flX3_15 rfl rfl rfl (by decide) dX3_die_32 rfl ?_
      refine V_iload_n 36 2 rfl rfl dX3_die_35 rfl ?_
      refine V_iconst 37 (-1) rfl dX3_die_36 rfl ?_
      refine V_iastN 38 20 6 m (by omega) (by decide) rfl (by decide) dX3_die_37 rfl ?_
      refine V_aload_n 39 1 rfl _ rfl rfl dX3_die_38 rfl ?_
      refine V_iload_n 40 2 rfl rfl dX3_die_39 rfl ?_
      refine V_callV (K' := 0) (S' := 0) 43 18 3 1 [.int (nI m)] mkX3_goHome lkX3_80 (by decide) rfl rfl (by decide) rfl (Nat.le_of_ble_eq_true rfl) (Nat.le_of_ble_eq_true rfl) (Nat.le_of_ble_eq_true rfl) (Nat.le_of_ble_eq_true rfl) rfl rfl dX3_die_40 rfl (c_X3_goHome_18_A hRK (DayC_u2 (DayC_lv (w := 0) hD hm rfl) hm) hm (fun v I1 hD1 hFr => ?_))
      refine Kq_i (k' := 0) (sl' := 0) rfl rfl ?_
      refine V_pop 44 rfl dX3_die_43 rfl ?_
      refine V_iload_n 45 3 rfl rfl dX3_die_44 rfl ?_
      refine V_iconst 46 (-1) rfl dX3_die_45 rfl ?_
      refine V_icmp_eq 74 49 rfl dX3_die_46 rfl (fun c46 => absurd c46 (nI_ne (by have := hk j rfl; omega))) (fun c46 => ?_)
      refine V_aload_n 50 1 rfl _ rfl rfl dX3_die_49 rfl ?_
      refine V_iload_n 51 3 rfl rfl dX3_die_50 rfl ?_
      refine V_callV (K' := 0) (S' := 0) 54 18 3 1 [.int (nI j)] mkX3_lives lkX3_72 (by decide) rfl rfl (by decide) rfl (Nat.le_of_ble_eq_true rfl) (Nat.le_of_ble_eq_true rfl) (Nat.le_of_ble_eq_true rfl) (Nat.le_of_ble_eq_true rfl) rfl rfl dX3_die_51 rfl (c_X3_lives_18 hRK hD1 hF2 (hk _ rfl) (fun e2 => ?_) (fun e2 => ?_))
      · refine Kq_i (k' := 0) (sl' := 0) rfl rfl ?_
        refine V_if_eq 74 57 rfl dX3_die_54 rfl (fun c54 => absurd c54 (by decide)) (fun c54 => ?_)
        refine V_aload_n 58 1 rfl _ rfl rfl dX3_die_57 rfl ?_
        refine V_getR 61 18 3 1 20 (hRK 18 1 (by decide) (by decide) (by decide)) flX3_15 rfl rfl rfl (by decide) dX3_die_58 rfl ?_
        refine V_iload_n 62 3 rfl rfl dX3_die_61 rfl ?_
        refine V_ialdN 63 20 6 j (dDie0 D m j) (hD1.2.1 j (hk j rfl)) (hk j rfl) (by decide) rfl (by decide) dX3_die_62 rfl ?_
        refine V_iconst 64 (-1) rfl dX3_die_63 rfl ?_
        refine V_icmp_ne 74 67 rfl dX3_die_64 rfl (fun c64 => ?_) (fun c64 => ?_)
        · refine V_iconst 75 (1) rfl dX3_die_74 rfl ?_
          refine V_ret_i rfl (by first | rfl | decide) (Nat.le_refl _) (fun h => absurd h (by decide)) (Nat.le_refl _) (h1 e1 I1 (by rw [dDie]; rw [if_neg (fun q => by first | exact c64 q.2 | exact absurd (q.1.symm.trans e2) (by decide))]; exact hD1) (((FrC.rf.up (by decide) (by decide)).up (by decide) (by decide)).tr hFr)) dX3_die_75
        · refine V_aload_n 68 1 rfl _ rfl rfl dX3_die_67 rfl ?_
          refine V_getR 71 18 3 1 20 (hRK 18 1 (by decide) (by decide) (by decide)) flX3_15 rfl rfl rfl (by decide) dX3_die_68 rfl ?_
          refine V_iload_n 72 3 rfl rfl dX3_die_71 rfl ?_
          refine V_iload_n 73 0 rfl rfl dX3_die_72 rfl ?_
          refine V_iastN 74 20 6 j (hk j rfl) (by decide) rfl (by decide) dX3_die_73 rfl ?_
          refine V_iconst 75 (1) rfl dX3_die_74 rfl ?_
          refine V_ret_i rfl (by first | rfl | decide) (Nat.le_refl _) (fun h => absurd h (by decide)) (Nat.le_refl _) (h1 e1 _ (by rw [dDie]; rw [if_pos ⟨e2, c64⟩]; exact DayC_u2 hD1 (hk j rfl)) ((((FrC.rf.up (by decide) (by decide)).up (by decide) (by decide)).tr hFr).up (by decide) (by decide))) dX3_die_75
      · refine Kq_i (k' := 0) (sl' := 0) rfl rfl ?_
        refine V_if_eq 74 57 rfl dX3_die_54 rfl (fun c54 => ?_) (fun c54 => absurd c54 (by decide))
        refine V_iconst 75 (1) rfl dX3_die_74 rfl ?_
        refine V_ret_i rfl (by first | rfl | decide) (Nat.le_refl _) (fun h => absurd h (by decide)) (Nat.le_refl _) (h1 e1 I1 (by rw [dDie]; rw [if_neg (fun q => by first | exact c64 q.2 | exact absurd (q.1.symm.trans e2) (by decide))]; exact hD1) (((FrC.rf.up (by decide) (by decide)).up (by decide) (by decide)).tr hFr)) dX3_die_75
    · refine Kq_i (k' := 0) (sl' := 0) rfl rfl ?_
      refine V_if_ne 10 8 rfl dX3_die_5 rfl (fun c5 => absurd c5 (by decide)) (fun c5 => ?_)
      refine V_iconst 9 (0) rfl dX3_die_8 rfl ?_
      refine V_ret_i rfl (by first | rfl | decide) (Nat.le_refl _) (fun h => absurd h (by decide)) (Nat.le_refl _) (h0 e1) dX3_die_9
set_option maxHeartbeats 4000000 in
theorem c_X3_take_18 {G : Gx} {d : Nat} {I : FI} {R : FR} {J : FJ} {Q : Po} (hRK : RK R) {D : DV} {m : Nat} {r : Int32} (hD : DayC I 18 D) (hm : m < 6) (hg : D (6 + m) = -1 ∨ ∃ g, g < 6 ∧ D (6 + m) = nI g) (hq : ∀ I', DayC I' 18 (dTake D m r) → FrC I I' 18 → Q (.inl none) 103 I' R J) : Cc G mX3_take (d + 1) 0 0 [rf G 18, .int (nI m), .int r] 103 I R J Q := by
  rcases hg with e | ⟨g, hg, e⟩
  · have e2 : dTake D m r = D := by unfold dTake; rw [e]; rfl
    rw [e2] at hq
    show V _ _ _ _ _ _ _ _ [(0, rf G 18), (1, .int (nI m)), (2, .int r)] [] _ _ _ _ _
    refine V_aload_n 1 0 rfl _ rfl rfl dX3_take_0 rfl ?_
    refine V_getR 4 18 3 2 21 (hRK 18 2 (by decide) (by decide) (by decide)) flX3_18 rfl rfl rfl (by decide) dX3_take_1 rfl ?_
    refine V_iload_n 5 1 rfl rfl dX3_take_4 rfl ?_
    refine V_ialdN 6 21 6 m (-1) ((hD.2.2.1 m hm).trans e) (by omega) (by decide) rfl (by decide) dX3_take_5 rfl ?_
    refine V_istore_n 7 [(3, .int (-1)), (0, rf G 18), (1, .int (nI m)), (2, .int r)] (by decide) rfl rfl dX3_take_6 rfl ?_
    refine V_iload_n 8 0 rfl rfl dX3_take_7 rfl ?_
    refine V_iconst 9 (-1) rfl dX3_take_8 rfl ?_
    refine V_icmp_ne 13 12 rfl dX3_take_9 rfl (fun c9 => absurd c9 (by decide)) (fun c9 => ?_)
    refine V_ret_v rfl (Nat.le_refl _) (fun h => absurd h (by decide)) (Nat.le_refl _) (hq I hD FrC.rf) dX3_take_12
  · have e2 := nOf_n (show g < 2 ^ 31 by omega)
    rw [dTake, e, e2] at hq
    show V _ _ _ _ _ _ _ _ [(0, rf G 18), (1, .int (nI m)), (2, .int r)] [] _ _ _ _ _
    refine V_aload_n 1 0 rfl _ rfl rfl dX3_take_0 rfl ?_
    refine V_getR 4 18 3 2 21 (hRK 18 2 (by decide) (by decide) (by decide)) flX3_18 rfl rfl rfl (by decide) dX3_take_1 rfl ?_
    refine V_iload_n 5 1 rfl rfl dX3_take_4 rfl ?_
    refine V_ialdN 6 21 6 m (nI g) ((hD.2.2.1 m hm).trans e) (by omega) (by decide) rfl (by decide) dX3_take_5 rfl ?_
    refine V_istore_n 7 [(3, .int (nI g)), (0, rf G 18), (1, .int (nI m)), (2, .int r)] (by decide) rfl rfl dX3_take_6 rfl ?_
    refine V_iload_n 8 0 rfl rfl dX3_take_7 rfl ?_
    refine V_iconst 9 (-1) rfl dX3_take_8 rfl ?_
    refine V_icmp_ne 13 12 rfl dX3_take_9 rfl (fun c9 => ?_) (fun c9 => absurd c9 (nI_ne (by omega)))
    refine V_aload_n 14 1 rfl _ rfl rfl dX3_take_13 rfl ?_
    refine V_getR 17 18 3 6 25 (hRK 18 6 (by decide) (by decide) (by decide)) flX3_30 rfl rfl rfl (by decide) dX3_take_14 rfl ?_
    refine V_iload_n 18 0 rfl rfl dX3_take_17 rfl ?_
    refine V_ialdN 19 25 6 g (D (44 + g)) (hD.2.2.2.2.2.2.1 g hg) (by omega) (by decide) rfl (by decide) dX3_take_18 rfl ?_
    refine V_iload_n 20 3 rfl rfl dX3_take_19 rfl ?_
    refine V_callS (K' := 0) (S' := 0) 23 1 [.int r] mkX3_fishBy lkX3_83 rfl (Nat.le_of_ble_eq_true rfl) (Nat.le_of_ble_eq_true rfl) (Nat.le_of_ble_eq_true rfl) (Nat.le_of_ble_eq_true rfl) rfl rfl dX3_take_20 rfl (c_X3_fishBy ?_)
    refine Kq_i (k' := 0) (sl' := 0) rfl rfl ?_
    refine V_min 26 lkX3_63 (Nat.le_refl _) (Nat.le_refl _) (Nat.le_of_ble_eq_true rfl) dX3_take_23 rfl ?_
    refine V_istore 28 [(4, .int (if 9 - r / 10 < D (44 + g) then 9 - r / 10 else D (44 + g))), (3, .int (nI g)), (0, rf G 18), (1, .int (nI m)), (2, .int r)] (by decide) rfl dX3_take_26 rfl ?_
    refine V_aload_n 29 2 rfl _ rfl rfl dX3_take_28 rfl ?_
    refine V_getR 32 18 3 6 25 (hRK 18 6 (by decide) (by decide) (by decide)) flX3_30 rfl rfl rfl (by decide) dX3_take_29 rfl ?_
    refine V_iload_n 33 1 rfl rfl dX3_take_32 rfl ?_
    refine V_dup2 34 rfl rfl dX3_take_33 rfl ?_
    refine V_ialdN 35 25 6 g (D (44 + g)) (hD.2.2.2.2.2.2.1 g hg) (by omega) (by decide) rfl (by decide) dX3_take_34 rfl ?_
    refine V_iload 37 0 rfl dX3_take_35 rfl ?_
    refine V_isub 38 dX3_take_37 rfl ?_
    refine V_iastN 39 25 6 g (by omega) (by decide) rfl (by decide) dX3_take_38 rfl ?_
    refine V_aload_n 40 2 rfl _ rfl rfl dX3_take_39 rfl ?_
    refine V_getR 43 18 3 4 23 (hRK 18 4 (by decide) (by decide) (by decide)) flX3_24 rfl rfl rfl (by decide) dX3_take_40 rfl ?_
    refine V_iload_n 44 3 rfl rfl dX3_take_43 rfl ?_
    refine V_dup2 45 rfl rfl dX3_take_44 rfl ?_
    refine V_ialdN 46 23 6 m (D (24 + m)) (hD.2.2.2.2.1 m hm) (by omega) (by decide) rfl (by decide) dX3_take_45 rfl ?_
    refine V_iload 48 0 rfl dX3_take_46 rfl ?_
    refine V_iadd 49 dX3_take_48 rfl ?_
    refine V_iastN 50 23 6 m (by omega) (by decide) rfl (by decide) dX3_take_49 rfl ?_
    refine V_aload_n 51 2 rfl _ rfl rfl dX3_take_50 rfl ?_
    refine V_getR 54 18 3 3 22 (hRK 18 3 (by decide) (by decide) (by decide)) flX3_21 rfl rfl rfl (by decide) dX3_take_51 rfl ?_
    refine V_iload_n 55 3 rfl rfl dX3_take_54 rfl ?_
    refine V_dup2 56 rfl rfl dX3_take_55 rfl ?_
    refine V_ialdN 57 22 6 m (D (12 + m)) (hD.2.2.2.1 m hm) (by omega) (by decide) rfl (by decide) dX3_take_56 rfl ?_
    refine V_iconst 58 (1) rfl dX3_take_57 rfl ?_
    refine V_iadd 59 dX3_take_58 rfl ?_
    refine V_iastN 60 22 6 m (by omega) (by decide) rfl (by decide) dX3_take_59 rfl ?_
    refine V_ret_v rfl (Nat.le_refl _) (fun h => absurd h (by decide)) (Nat.le_refl _) (hq _ (DayC_u4 (DayC_u5 (DayC_u7 hD hg) hm) hm) (((FrC.rf.up (by decide) (by decide)).up (by decide) (by decide)).up (by decide) (by decide))) dX3_take_60
set_option maxHeartbeats 4000000 in
theorem c_X3_mostLander_18 {G : Gx} {d : Nat} {I : FI} {R : FR} {J : FJ} {Q : Po} (hRK : RK R) {D : DV} (hD : DayC I 18 D) (hq : Q (.inl (some (.int (bstF D 6).1))) 103 I R J) : Cc G mX3_mostLander d 0 0 [rf G 18] 103 I R J Q := by
  have L : ∀ i, i ≤ 6 → V G mX3_mostLander d 0 0 0 0 6 [(3, .int (nI i)), (2, .int ((bstF D i).2)), (1, .int ((bstF D i).1)), (0, rf G 18)] [] 103 I R J Q := by
    refine loopd 6 ?_ (fun i hi ih => ?_)
    · refine V_iload_n 7 0 rfl rfl dX3_mostLander_6 rfl ?_
      refine V_bipush 9 (6) rfl dX3_mostLander_7 rfl ?_
      refine V_icmp_ge 37 12 rfl dX3_mostLander_9 rfl (fun c9 => ?_) (fun c9 => absurd (by decide) c9)
      refine V_iload_n 38 2 rfl rfl dX3_mostLander_37 rfl ?_
      refine V_ret_i rfl rfl (Nat.le_refl _) (fun h => absurd h (by decide)) (Nat.le_refl _) (hq) dX3_mostLander_38
    · refine V_iload_n 7 0 rfl rfl dX3_mostLander_6 rfl ?_
      refine V_bipush 9 (6) rfl dX3_mostLander_7 rfl ?_
      refine V_icmp_ge 37 12 rfl dX3_mostLander_9 rfl (fun c9 => absurd c9 (nI_ge hi (by decide))) (fun c9 => ?_)
      refine V_aload_n 13 3 rfl _ rfl rfl dX3_mostLander_12 rfl ?_
      refine V_getR 16 18 3 4 23 (hRK 18 4 (by decide) (by decide) (by decide)) flX3_24 rfl rfl rfl (by decide) dX3_mostLander_13 rfl ?_
      refine V_iload_n 17 0 rfl rfl dX3_mostLander_16 rfl ?_
      refine V_ialdN 18 23 6 i (D (24 + i)) (hD.2.2.2.2.1 i hi) (by omega) (by decide) rfl (by decide) dX3_mostLander_17 rfl ?_
      refine V_iload_n 19 1 rfl rfl dX3_mostLander_18 rfl ?_
      refine V_icmp_le 31 22 rfl dX3_mostLander_19 rfl (fun c19 => ?_) (fun c19 => ?_)
      · refine V_iinc 34 0 rfl (nI (i + 1)) [(3, .int (nI (i + 1))), (2, .int ((bstF D i).2)), (1, .int ((bstF D i).1)), (0, rf G 18)] (nI_1 _) (by decide) rfl dX3_mostLander_31 rfl ?_
        refine V_goto 6 rfl dX3_mostLander_34 ?_
        have e : bstF D (i + 1) = bstF D i := by rw [bstF, if_neg (by first | exact Int32.not_lt.mpr c19 | exact c19)]
        rw [e] at ih
        exact V_lv [0, 1, 2, 3] rfl ih
      · refine V_aload_n 23 3 rfl _ rfl rfl dX3_mostLander_22 rfl ?_
        refine V_getR 26 18 3 4 23 (hRK 18 4 (by decide) (by decide) (by decide)) flX3_24 rfl rfl rfl (by decide) dX3_mostLander_23 rfl ?_
        refine V_iload_n 27 0 rfl rfl dX3_mostLander_26 rfl ?_
        refine V_ialdN 28 23 6 i (D (24 + i)) (hD.2.2.2.2.1 i hi) (by omega) (by decide) rfl (by decide) dX3_mostLander_27 rfl ?_
        refine V_istore_n 29 [(2, .int (D (24 + i))), (3, .int (nI i)), (1, .int ((bstF D i).1)), (0, rf G 18)] (by decide) rfl rfl dX3_mostLander_28 rfl ?_
        refine V_iload_n 30 1 rfl rfl dX3_mostLander_29 rfl ?_
        refine V_istore_n 31 [(1, .int (nI i)), (2, .int (D (24 + i))), (3, .int (nI i)), (0, rf G 18)] (by decide) rfl rfl dX3_mostLander_30 rfl ?_
        refine V_iinc 34 2 rfl (nI (i + 1)) [(3, .int (nI (i + 1))), (1, .int (nI i)), (2, .int (D (24 + i))), (0, rf G 18)] (nI_1 _) (by decide) rfl dX3_mostLander_31 rfl ?_
        refine V_goto 6 rfl dX3_mostLander_34 ?_
        have e : bstF D (i + 1) = (nI i, D (24 + i)) := by rw [bstF, if_pos (by first | exact Int32.not_le.mp c19 | exact c19)]
        rw [e] at ih
        exact V_lv [0, 2, 1, 3] rfl ih
  show V _ _ _ _ _ _ _ _ [(0, rf G 18)] [] _ _ _ _ _
  refine V_iconst 1 (-1) rfl dX3_mostLander_0 rfl ?_
  refine V_istore_n 2 [(1, .int (-1)), (0, rf G 18)] (by decide) rfl rfl dX3_mostLander_1 rfl ?_
  refine V_iconst 3 (0) rfl dX3_mostLander_2 rfl ?_
  refine V_istore_n 4 [(2, .int 0), (1, .int (-1)), (0, rf G 18)] (by decide) rfl rfl dX3_mostLander_3 rfl ?_
  refine V_iconst 5 (0) rfl dX3_mostLander_4 rfl ?_
  refine V_istore_n 6 [(3, .int 0), (2, .int 0), (1, .int (-1)), (0, rf G 18)] (by decide) rfl rfl dX3_mostLander_5 rfl ?_
  exact V_lv [0, 1, 2, 3] rfl (L 0 (by decide))
theorem c_X3_goHome_26_A {G : Gx} {d : Nat} {I : FI} {R : FR} {J : FJ} {Q : Po} (hRK : RK R) {D : DV} {m : Nat} (hD : DayC I 26 D) (hm : m < 6) (hq : ∀ v I', DayC I' 26 (dHome D m) → FrC I I' 26 → Q (.inl (some (.int v))) 103 I' R J) : Cc G mX3_goHome d 0 0 [rf G 26, .int (nI m)] 103 I R J Q :=
  c_X3_goHome_26 hRK hD hm (fun e => hq 0 I (by rw [dHome, if_pos e]; exact hD) FrC.rf) (fun e I' h1 h2 => hq 1 I' h1 h2)
set_option maxHeartbeats 4000000 in
theorem c_X3_die_26 {G : Gx} {d : Nat} {I : FI} {R : FR} {J : FJ} {Q : Po} (hRK : RK R) {D : DV} {m : Nat} {k : Option Nat} (hk : ∀ j, k = some j → j < 6) (hD : DayC I 26 D) (hF : Flg D) (hm : m < 6) (h0 : D (30 + m) = 0 → Q (.inl (some (.int 0))) 103 I R J) (h1 : D (30 + m) = 1 → ∀ I', DayC I' 26 (dDie D m k) → FrC I I' 26 → Q (.inl (some (.int 1))) 103 I' R J) : Cc G mX3_die (d + 1) 0 0 [rf G 26, .int (nI m), .int (oI k)] 103 I R J Q := by
  have hF2 : Flg (dDie0 D m) := hF.die0 m hm
  cases k with
  | none =>
    show V _ _ _ _ _ _ _ _ [(0, rf G 26), (1, .int (nI m)), (2, .int (-1))] [] _ _ _ _ _
    refine V_aload_n 1 0 rfl _ rfl rfl dX3_die_0 rfl ?_
    refine V_iload_n 2 1 rfl rfl dX3_die_1 rfl ?_
    refine V_callV (K' := 0) (S' := 0) 5 26 3 1 [.int (nI m)] mkX3_lives lkX3_72 (by decide) rfl rfl (by decide) rfl (Nat.le_of_ble_eq_true rfl) (Nat.le_of_ble_eq_true rfl) (Nat.le_of_ble_eq_true rfl) (Nat.le_of_ble_eq_true rfl) rfl rfl dX3_die_2 rfl (c_X3_lives_26 hRK hD hF hm (fun e1 => ?_) (fun e1 => ?_))
    · refine Kq_i (k' := 0) (sl' := 0) rfl rfl ?_
      refine V_if_ne 10 8 rfl dX3_die_5 rfl (fun c5 => ?_) (fun c5 => absurd c5 (by decide))
      refine V_aload_n 11 0 rfl _ rfl rfl dX3_die_10 rfl ?_
      refine V_getR 14 26 3 1 28 (hRK 26 1 (by decide) (by decide) (by decide)) flX3_15 rfl rfl rfl (by decide) dX3_die_11 rfl ?_
      refine V_iload_n 15 1 rfl rfl dX3_die_14 rfl ?_
      refine V_ialdN 16 28 6 m (D m) (hD.2.1 m hm) (by omega) (by decide) rfl (by decide) dX3_die_15 rfl ?_
      refine V_istore_n 17 [(3, .int (D m)), (0, rf G 26), (1, .int (nI m)), (2, .int (-1))] (by decide) rfl rfl dX3_die_16 rfl ?_
      refine V_aload_n 18 1 rfl _ rfl rfl dX3_die_17 rfl ?_
      refine V_dup 19 rfl dX3_die_18 rfl ?_
      refine V_getI 22 26 3 8 (livB D 6) hD.2.2.2.2.2.2.2.2 flX3_60 rfl rfl rfl (by decide) dX3_die_19 rfl ?_
      refine V_iconst 23 (1) rfl dX3_die_22 rfl ?_
      refine V_iload_n 24 2 rfl rfl dX3_die_23 rfl ?_
      refine V_ishl 25 dX3_die_24 rfl ?_
      refine V_iconst 26 (-1) rfl dX3_die_25 rfl ?_
      refine V_ixor 27 dX3_die_26 rfl ?_
      refine V_iand 28 dX3_die_27 rfl ?_
      refine V_rw ((livB_off hF hm).symm) ?_
      refine V_putI 31 26 3 8 flX3_60 rfl rfl rfl (by decide) rfl dX3_die_28 rfl ?_
      refine V_aload_n 32 1 rfl _ rfl rfl dX3_die_31 rfl ?_
      refine V_getR 35 26 3 1 28 (hRK 26 1 (by decide) (by decide) (by decide)) flX3_15 rfl rfl rfl (by decide) dX3_die_32 rfl ?_
      refine V_iload_n 36 2 rfl rfl dX3_die_35 rfl ?_
      refine V_iconst 37 (-1) rfl dX3_die_36 rfl ?_
      refine V_iastN 38 28 6 m (by omega) (by decide) rfl (by decide) dX3_die_37 rfl ?_
      refine V_aload_n 39 1 rfl _ rfl rfl dX3_die_38 rfl ?_
      refine V_iload_n 40 2 rfl rfl dX3_die_39 rfl ?_
      refine V_callV (K' := 0) (S' := 0) 43 26 3 1 [.int (nI m)] mkX3_goHome lkX3_80 (by decide) rfl rfl (by decide) rfl (Nat.le_of_ble_eq_true rfl) (Nat.le_of_ble_eq_true rfl) (Nat.le_of_ble_eq_true rfl) (Nat.le_of_ble_eq_true rfl) rfl rfl dX3_die_40 rfl (c_X3_goHome_26_A hRK (DayC_u2 (DayC_lv (w := 0) hD hm rfl) hm) hm (fun v I1 hD1 hFr => ?_))
      refine Kq_i (k' := 0) (sl' := 0) rfl rfl ?_
      refine V_pop 44 rfl dX3_die_43 rfl ?_
      refine V_iload_n 45 3 rfl rfl dX3_die_44 rfl ?_
      refine V_iconst 46 (-1) rfl dX3_die_45 rfl ?_
      refine V_icmp_eq 74 49 rfl dX3_die_46 rfl (fun c46 => ?_) (fun c46 => absurd c46 (by decide))
      refine V_iconst 75 (1) rfl dX3_die_74 rfl ?_
      refine V_ret_i rfl (by first | rfl | decide) (Nat.le_refl _) (fun h => absurd h (by decide)) (Nat.le_refl _) (h1 e1 I1 hD1 (((FrC.rf.up (by decide) (by decide)).up (by decide) (by decide)).tr hFr)) dX3_die_75
    · refine Kq_i (k' := 0) (sl' := 0) rfl rfl ?_
      refine V_if_ne 10 8 rfl dX3_die_5 rfl (fun c5 => absurd c5 (by decide)) (fun c5 => ?_)
      refine V_iconst 9 (0) rfl dX3_die_8 rfl ?_
      refine V_ret_i rfl (by first | rfl | decide) (Nat.le_refl _) (fun h => absurd h (by decide)) (Nat.le_refl _) (h0 e1) dX3_die_9
  | some j =>
    show V _ _ _ _ _ _ _ _ [(0, rf G 26), (1, .int (nI m)), (2, .int (nI j))] [] _ _ _ _ _
    refine V_aload_n 1 0 rfl _ rfl rfl dX3_die_0 rfl ?_
    refine V_iload_n 2 1 rfl rfl dX3_die_1 rfl ?_
    refine V_callV (K' := 0) (S' := 0) 5 26 3 1 [.int (nI m)] mkX3_lives lkX3_72 (by decide) rfl rfl (by decide) rfl (Nat.le_of_ble_eq_true rfl) (Nat.le_of_ble_eq_true rfl) (Nat.le_of_ble_eq_true rfl) (Nat.le_of_ble_eq_true rfl) rfl rfl dX3_die_2 rfl (c_X3_lives_26 hRK hD hF hm (fun e1 => ?_) (fun e1 => ?_))
    · refine Kq_i (k' := 0) (sl' := 0) rfl rfl ?_
      refine V_if_ne 10 8 rfl dX3_die_5 rfl (fun c5 => ?_) (fun c5 => absurd c5 (by decide))
      refine V_aload_n 11 0 rfl _ rfl rfl dX3_die_10 rfl ?_
      refine V_getR 14 26 3 1 28 (hRK 26 1 (by decide) (by decide) (by decide)) flX3_15 rfl rfl rfl (by decide) dX3_die_11 rfl ?_
      refine V_iload_n 15 1 rfl rfl dX3_die_14 rfl ?_
      refine V_ialdN 16 28 6 m (D m) (hD.2.1 m hm) (by omega) (by decide) rfl (by decide) dX3_die_15 rfl ?_
      refine V_istore_n 17 [(3, .int (D m)), (0, rf G 26), (1, .int (nI m)), (2, .int (nI j))] (by decide) rfl rfl dX3_die_16 rfl ?_
      refine V_aload_n 18 1 rfl _ rfl rfl dX3_die_17 rfl ?_
      refine V_dup 19 rfl dX3_die_18 rfl ?_
      refine V_getI 22 26 3 8 (livB D 6) hD.2.2.2.2.2.2.2.2 flX3_60 rfl rfl rfl (by decide) dX3_die_19 rfl ?_
      refine V_iconst 23 (1) rfl dX3_die_22 rfl ?_
      refine V_iload_n 24 2 rfl rfl dX3_die_23 rfl ?_
      refine V_ishl 25 dX3_die_24 rfl ?_
      refine V_iconst 26 (-1) rfl dX3_die_25 rfl ?_
      refine V_ixor 27 dX3_die_26 rfl ?_
      refine V_iand 28 dX3_die_27 rfl ?_
      refine V_rw ((livB_off hF hm).symm) ?_
      refine V_putI 31 26 3 8 flX3_60 rfl rfl rfl (by decide) rfl dX3_die_28 rfl ?_
      refine V_aload_n 32 1 rfl _ rfl rfl dX3_die_31 rfl ?_
      refine V_getR 35 26 3 1 28 (hRK 26 1 (by decide) (by decide) (by decide)) flX3_15 rfl rfl rfl (by decide) dX3_die_32 rfl ?_
      refine V_iload_n 36 2 rfl rfl dX3_die_35 rfl ?_
      refine V_iconst 37 (-1) rfl dX3_die_36 rfl ?_
      refine V_iastN 38 28 6 m (by omega) (by decide) rfl (by decide) dX3_die_37 rfl ?_
      refine V_aload_n 39 1 rfl _ rfl rfl dX3_die_38 rfl ?_
      refine V_iload_n 40 2 rfl rfl dX3_die_39 rfl ?_
      refine V_callV (K' := 0) (S' := 0) 43 26 3 1 [.int (nI m)] mkX3_goHome lkX3_80 (by decide) rfl rfl (by decide) rfl (Nat.le_of_ble_eq_true rfl) (Nat.le_of_ble_eq_true rfl) (Nat.le_of_ble_eq_true rfl) (Nat.le_of_ble_eq_true rfl) rfl rfl dX3_die_40 rfl (c_X3_goHome_26_A hRK (DayC_u2 (DayC_lv (w := 0) hD hm rfl) hm) hm (fun v I1 hD1 hFr => ?_))
      refine Kq_i (k' := 0) (sl' := 0) rfl rfl ?_
      refine V_pop 44 rfl dX3_die_43 rfl ?_
      refine V_iload_n 45 3 rfl rfl dX3_die_44 rfl ?_
      refine V_iconst 46 (-1) rfl dX3_die_45 rfl ?_
      refine V_icmp_eq 74 49 rfl dX3_die_46 rfl (fun c46 => absurd c46 (nI_ne (by have := hk j rfl; omega))) (fun c46 => ?_)
      refine V_aload_n 50 1 rfl _ rfl rfl dX3_die_49 rfl ?_
      refine V_iload_n 51 3 rfl rfl dX3_die_50 rfl ?_
      refine V_callV (K' := 0) (S' := 0) 54 26 3 1 [.int (nI j)] mkX3_lives lkX3_72 (by decide) rfl rfl (by decide) rfl (Nat.le_of_ble_eq_true rfl) (Nat.le_of_ble_eq_true rfl) (Nat.le_of_ble_eq_true rfl) (Nat.le_of_ble_eq_true rfl) rfl rfl dX3_die_51 rfl (c_X3_lives_26 hRK hD1 hF2 (hk _ rfl) (fun e2 => ?_) (fun e2 => ?_))
      · refine Kq_i (k' := 0) (sl' := 0) rfl rfl ?_
        refine V_if_eq 74 57 rfl dX3_die_54 rfl (fun c54 => absurd c54 (by decide)) (fun c54 => ?_)
        refine V_aload_n 58 1 rfl _ rfl rfl dX3_die_57 rfl ?_
        refine V_getR 61 26 3 1 28 (hRK 26 1 (by decide) (by decide) (by decide)) flX3_15 rfl rfl rfl (by decide) dX3_die_58 rfl ?_
        refine V_iload_n 62 3 rfl rfl dX3_die_61 rfl ?_
        refine V_ialdN 63 28 6 j (dDie0 D m j) (hD1.2.1 j (hk j rfl)) (hk j rfl) (by decide) rfl (by decide) dX3_die_62 rfl ?_
        refine V_iconst 64 (-1) rfl dX3_die_63 rfl ?_
        refine V_icmp_ne 74 67 rfl dX3_die_64 rfl (fun c64 => ?_) (fun c64 => ?_)
        · refine V_iconst 75 (1) rfl dX3_die_74 rfl ?_
          refine V_ret_i rfl (by first | rfl | decide) (Nat.le_refl _) (fun h => absurd h (by decide)) (Nat.le_refl _) (h1 e1 I1 (by rw [dDie]; rw [if_neg (fun q => by first | exact c64 q.2 | exact absurd (q.1.symm.trans e2) (by decide))]; exact hD1) (((FrC.rf.up (by decide) (by decide)).up (by decide) (by decide)).tr hFr)) dX3_die_75
        · refine V_aload_n 68 1 rfl _ rfl rfl dX3_die_67 rfl ?_
          refine V_getR 71 26 3 1 28 (hRK 26 1 (by decide) (by decide) (by decide)) flX3_15 rfl rfl rfl (by decide) dX3_die_68 rfl ?_
          refine V_iload_n 72 3 rfl rfl dX3_die_71 rfl ?_
          refine V_iload_n 73 0 rfl rfl dX3_die_72 rfl ?_
          refine V_iastN 74 28 6 j (hk j rfl) (by decide) rfl (by decide) dX3_die_73 rfl ?_
          refine V_iconst 75 (1) rfl dX3_die_74 rfl ?_
          refine V_ret_i rfl (by first | rfl | decide) (Nat.le_refl _) (fun h => absurd h (by decide)) (Nat.le_refl _) (h1 e1 _ (by rw [dDie]; rw [if_pos ⟨e2, c64⟩]; exact DayC_u2 hD1 (hk j rfl)) ((((FrC.rf.up (by decide) (by decide)).up (by decide) (by decide)).tr hFr).up (by decide) (by decide))) dX3_die_75
      · refine Kq_i (k' := 0) (sl' := 0) rfl rfl ?_
        refine V_if_eq 74 57 rfl dX3_die_54 rfl (fun c54 => ?_) (fun c54 => absurd c54 (by decide))
        refine V_iconst 75 (1) rfl dX3_die_74 rfl ?_
        refine V_ret_i rfl (by first | rfl | decide) (Nat.le_refl _) (fun h => absurd h (by decide)) (Nat.le_refl _) (h1 e1 I1 (by rw [dDie]; rw [if_neg (fun q => by first | exact c64 q.2 | exact absurd (q.1.symm.trans e2) (by decide))]; exact hD1) (((FrC.rf.up (by decide) (by decide)).up (by decide) (by decide)).tr hFr)) dX3_die_75
    · refine Kq_i (k' := 0) (sl' := 0) rfl rfl ?_
      refine V_if_ne 10 8 rfl dX3_die_5 rfl (fun c5 => absurd c5 (by decide)) (fun c5 => ?_)
      refine V_iconst 9 (0) rfl dX3_die_8 rfl ?_
      refine V_ret_i rfl (by first | rfl | decide) (Nat.le_refl _) (fun h => absurd h (by decide)) (Nat.le_refl _) (h0 e1) dX3_die_9
set_option maxHeartbeats 4000000 in
theorem c_X3_take_26 {G : Gx} {d : Nat} {I : FI} {R : FR} {J : FJ} {Q : Po} (hRK : RK R) {D : DV} {m : Nat} {r : Int32} (hD : DayC I 26 D) (hm : m < 6) (hg : D (6 + m) = -1 ∨ ∃ g, g < 6 ∧ D (6 + m) = nI g) (hq : ∀ I', DayC I' 26 (dTake D m r) → FrC I I' 26 → Q (.inl none) 103 I' R J) : Cc G mX3_take (d + 1) 0 0 [rf G 26, .int (nI m), .int r] 103 I R J Q := by
  rcases hg with e | ⟨g, hg, e⟩
  · have e2 : dTake D m r = D := by unfold dTake; rw [e]; rfl
    rw [e2] at hq
    show V _ _ _ _ _ _ _ _ [(0, rf G 26), (1, .int (nI m)), (2, .int r)] [] _ _ _ _ _
    refine V_aload_n 1 0 rfl _ rfl rfl dX3_take_0 rfl ?_
    refine V_getR 4 26 3 2 29 (hRK 26 2 (by decide) (by decide) (by decide)) flX3_18 rfl rfl rfl (by decide) dX3_take_1 rfl ?_
    refine V_iload_n 5 1 rfl rfl dX3_take_4 rfl ?_
    refine V_ialdN 6 29 6 m (-1) ((hD.2.2.1 m hm).trans e) (by omega) (by decide) rfl (by decide) dX3_take_5 rfl ?_
    refine V_istore_n 7 [(3, .int (-1)), (0, rf G 26), (1, .int (nI m)), (2, .int r)] (by decide) rfl rfl dX3_take_6 rfl ?_
    refine V_iload_n 8 0 rfl rfl dX3_take_7 rfl ?_
    refine V_iconst 9 (-1) rfl dX3_take_8 rfl ?_
    refine V_icmp_ne 13 12 rfl dX3_take_9 rfl (fun c9 => absurd c9 (by decide)) (fun c9 => ?_)
    refine V_ret_v rfl (Nat.le_refl _) (fun h => absurd h (by decide)) (Nat.le_refl _) (hq I hD FrC.rf) dX3_take_12
  · have e2 := nOf_n (show g < 2 ^ 31 by omega)
    rw [dTake, e, e2] at hq
    show V _ _ _ _ _ _ _ _ [(0, rf G 26), (1, .int (nI m)), (2, .int r)] [] _ _ _ _ _
    refine V_aload_n 1 0 rfl _ rfl rfl dX3_take_0 rfl ?_
    refine V_getR 4 26 3 2 29 (hRK 26 2 (by decide) (by decide) (by decide)) flX3_18 rfl rfl rfl (by decide) dX3_take_1 rfl ?_
    refine V_iload_n 5 1 rfl rfl dX3_take_4 rfl ?_
    refine V_ialdN 6 29 6 m (nI g) ((hD.2.2.1 m hm).trans e) (by omega) (by decide) rfl (by decide) dX3_take_5 rfl ?_
    refine V_istore_n 7 [(3, .int (nI g)), (0, rf G 26), (1, .int (nI m)), (2, .int r)] (by decide) rfl rfl dX3_take_6 rfl ?_
    refine V_iload_n 8 0 rfl rfl dX3_take_7 rfl ?_
    refine V_iconst 9 (-1) rfl dX3_take_8 rfl ?_
    refine V_icmp_ne 13 12 rfl dX3_take_9 rfl (fun c9 => ?_) (fun c9 => absurd c9 (nI_ne (by omega)))
    refine V_aload_n 14 1 rfl _ rfl rfl dX3_take_13 rfl ?_
    refine V_getR 17 26 3 6 33 (hRK 26 6 (by decide) (by decide) (by decide)) flX3_30 rfl rfl rfl (by decide) dX3_take_14 rfl ?_
    refine V_iload_n 18 0 rfl rfl dX3_take_17 rfl ?_
    refine V_ialdN 19 33 6 g (D (44 + g)) (hD.2.2.2.2.2.2.1 g hg) (by omega) (by decide) rfl (by decide) dX3_take_18 rfl ?_
    refine V_iload_n 20 3 rfl rfl dX3_take_19 rfl ?_
    refine V_callS (K' := 0) (S' := 0) 23 1 [.int r] mkX3_fishBy lkX3_83 rfl (Nat.le_of_ble_eq_true rfl) (Nat.le_of_ble_eq_true rfl) (Nat.le_of_ble_eq_true rfl) (Nat.le_of_ble_eq_true rfl) rfl rfl dX3_take_20 rfl (c_X3_fishBy ?_)
    refine Kq_i (k' := 0) (sl' := 0) rfl rfl ?_
    refine V_min 26 lkX3_63 (Nat.le_refl _) (Nat.le_refl _) (Nat.le_of_ble_eq_true rfl) dX3_take_23 rfl ?_
    refine V_istore 28 [(4, .int (if 9 - r / 10 < D (44 + g) then 9 - r / 10 else D (44 + g))), (3, .int (nI g)), (0, rf G 26), (1, .int (nI m)), (2, .int r)] (by decide) rfl dX3_take_26 rfl ?_
    refine V_aload_n 29 2 rfl _ rfl rfl dX3_take_28 rfl ?_
    refine V_getR 32 26 3 6 33 (hRK 26 6 (by decide) (by decide) (by decide)) flX3_30 rfl rfl rfl (by decide) dX3_take_29 rfl ?_
    refine V_iload_n 33 1 rfl rfl dX3_take_32 rfl ?_
    refine V_dup2 34 rfl rfl dX3_take_33 rfl ?_
    refine V_ialdN 35 33 6 g (D (44 + g)) (hD.2.2.2.2.2.2.1 g hg) (by omega) (by decide) rfl (by decide) dX3_take_34 rfl ?_
    refine V_iload 37 0 rfl dX3_take_35 rfl ?_
    refine V_isub 38 dX3_take_37 rfl ?_
    refine V_iastN 39 33 6 g (by omega) (by decide) rfl (by decide) dX3_take_38 rfl ?_
    refine V_aload_n 40 2 rfl _ rfl rfl dX3_take_39 rfl ?_
    refine V_getR 43 26 3 4 31 (hRK 26 4 (by decide) (by decide) (by decide)) flX3_24 rfl rfl rfl (by decide) dX3_take_40 rfl ?_
    refine V_iload_n 44 3 rfl rfl dX3_take_43 rfl ?_
    refine V_dup2 45 rfl rfl dX3_take_44 rfl ?_
    refine V_ialdN 46 31 6 m (D (24 + m)) (hD.2.2.2.2.1 m hm) (by omega) (by decide) rfl (by decide) dX3_take_45 rfl ?_
    refine V_iload 48 0 rfl dX3_take_46 rfl ?_
    refine V_iadd 49 dX3_take_48 rfl ?_
    refine V_iastN 50 31 6 m (by omega) (by decide) rfl (by decide) dX3_take_49 rfl ?_
    refine V_aload_n 51 2 rfl _ rfl rfl dX3_take_50 rfl ?_
    refine V_getR 54 26 3 3 30 (hRK 26 3 (by decide) (by decide) (by decide)) flX3_21 rfl rfl rfl (by decide) dX3_take_51 rfl ?_
    refine V_iload_n 55 3 rfl rfl dX3_take_54 rfl ?_
    refine V_dup2 56 rfl rfl dX3_take_55 rfl ?_
    refine V_ialdN 57 30 6 m (D (12 + m)) (hD.2.2.2.1 m hm) (by omega) (by decide) rfl (by decide) dX3_take_56 rfl ?_
    refine V_iconst 58 (1) rfl dX3_take_57 rfl ?_
    refine V_iadd 59 dX3_take_58 rfl ?_
    refine V_iastN 60 30 6 m (by omega) (by decide) rfl (by decide) dX3_take_59 rfl ?_
    refine V_ret_v rfl (Nat.le_refl _) (fun h => absurd h (by decide)) (Nat.le_refl _) (hq _ (DayC_u4 (DayC_u5 (DayC_u7 hD hg) hm) hm) (((FrC.rf.up (by decide) (by decide)).up (by decide) (by decide)).up (by decide) (by decide))) dX3_take_60
