/-! ===== beginnings, in a world of n cells ===== -/
theorem c_X5_joinN {G : Gx} {d n : Nat} {I : FI} {R : FR} {J : FJ} {Q : Po} {l s : Nat} (hn : l + 5 ≤ n) (g0 : R l 0 = some (l + 1)) (g1 : R l 1 = some (l + 2)) (g2 : R l 2 = some (l + 3)) (hl : l = 11 ∨ l = 58) {kd lf rt : Int32} (hs : I l 4 = nI s) (h150 : s < 150) (hq : Q (.inl (some (.int (nI s)))) n (jnI I l s kd lf rt) R J) : Cc G mX5_join d 0 0 [rf G l, .int kd, .int lf, .int rt] n I R J Q := by
  show V _ _ _ _ _ _ _ _ [(0, rf G l), (1, .int kd), (2, .int lf), (3, .int rt)] [] _ _ _ _ _
  refine V_aload_n 1 0 rfl _ rfl rfl dX5_join_0 rfl ?_
  refine V_getI 4 l 5 4 (nI s) hs flX5_27 rfl (ly_l hl).1 rfl (by omega) dX5_join_1 rfl ?_
  refine V_sipush 7 (150) rfl dX5_join_4 rfl ?_
  refine V_icmp_lt 12 10 rfl dX5_join_7 rfl (fun c7 => ?_) (fun c7 => absurd (nI_lt (b := 150) h150 (by decide)) c7)
  refine V_aload_n 13 0 rfl _ rfl rfl dX5_join_12 rfl ?_
  refine V_getR 16 l 5 0 (l + 1) g0 flX5_9 rfl (ly_l hl).1 rfl (by omega) dX5_join_13 rfl ?_
  refine V_aload_n 17 0 rfl _ rfl rfl dX5_join_16 rfl ?_
  refine V_getI 20 l 5 4 (nI s) hs flX5_27 rfl (ly_l hl).1 rfl (by omega) dX5_join_17 rfl ?_
  refine V_iload_n 21 1 rfl rfl dX5_join_20 rfl ?_
  refine V_iastN 22 (l + 1) 150 s (by omega) (by decide) (ly_l hl).2.1 (by omega) dX5_join_21 rfl ?_
  refine V_aload_n 23 0 rfl _ rfl rfl dX5_join_22 rfl ?_
  refine V_getR 26 l 5 1 (l + 2) g1 flX5_15 rfl (ly_l hl).1 rfl (by omega) dX5_join_23 rfl ?_
  refine V_aload_n 27 0 rfl _ rfl rfl dX5_join_26 rfl ?_
  refine V_getI 30 l 5 4 (nI s) (by rw [up2_n _ _ _ (by omega)]; exact hs) flX5_27 rfl (ly_l hl).1 rfl (by omega) dX5_join_27 rfl ?_
  refine V_iload_n 31 2 rfl rfl dX5_join_30 rfl ?_
  refine V_iastN 32 (l + 2) 150 s (by omega) (by decide) (ly_l hl).2.2.1 (by omega) dX5_join_31 rfl ?_
  refine V_aload_n 33 0 rfl _ rfl rfl dX5_join_32 rfl ?_
  refine V_getR 36 l 5 2 (l + 3) g2 flX5_18 rfl (ly_l hl).1 rfl (by omega) dX5_join_33 rfl ?_
  refine V_aload_n 37 0 rfl _ rfl rfl dX5_join_36 rfl ?_
  refine V_getI 40 l 5 4 (nI s) (by rw [up2_n _ _ _ (by omega), up2_n _ _ _ (by omega)]; exact hs) flX5_27 rfl (ly_l hl).1 rfl (by omega) dX5_join_37 rfl ?_
  refine V_iload_n 41 3 rfl rfl dX5_join_40 rfl ?_
  refine V_iastN 42 (l + 3) 150 s (by omega) (by decide) (ly_l hl).2.2.2.1 (by omega) dX5_join_41 rfl ?_
  refine V_aload_n 43 0 rfl _ rfl rfl dX5_join_42 rfl ?_
  refine V_dup 44 rfl dX5_join_43 rfl ?_
  refine V_getI 47 l 5 4 (nI s) (by rw [up2_n _ _ _ (by omega), up2_n _ _ _ (by omega), up2_n _ _ _ (by omega)]; exact hs) flX5_27 rfl (ly_l hl).1 rfl (by omega) dX5_join_44 rfl ?_
  refine V_iconst 48 (1) rfl dX5_join_47 rfl ?_
  refine V_iadd 49 dX5_join_48 rfl ?_
  refine V_rw (nI_add s 1) ?_
  refine V_putI 52 l 5 4 flX5_27 rfl (ly_l hl).1 rfl (by omega) rfl dX5_join_49 rfl ?_
  refine V_aload_n 53 0 rfl _ rfl rfl dX5_join_52 rfl ?_
  refine V_getI 56 l 5 4 (nI (s + 1)) (by rw [up2_s]; exact upd_s) flX5_27 rfl (ly_l hl).1 rfl (by omega) dX5_join_53 rfl ?_
  refine V_iconst 57 (1) rfl dX5_join_56 rfl ?_
  refine V_isub 58 dX5_join_57 rfl ?_
  refine V_rw (nI_pred s) ?_
  refine V_ret_i rfl rfl (Nat.le_of_ble_eq_true rfl) (fun _ => Nat.le_refl _) (Nat.le_of_ble_eq_true rfl) (hq) dX5_join_58
theorem c_X5_beStandard {G : Gx} {d n : Nat} {I : FI} {R : FR} {J : FJ} {Q : Po} {l : Nat} (hn : l + 5 ≤ n) (g0 : R l 0 = some (l + 1)) (g1 : R l 1 = some (l + 2)) (g2 : R l 2 = some (l + 3)) (hl : l = 11 ∨ l = 58) (hq : ∀ I', LawC I' l (fun F => clF (3 * F 0 - 4 * F 1)) → FrL I I' l → Q (.inl none) n I' R J) : Cc G mX5_beStandard (d + 1) 0 0 [rf G l] n I R J Q := by
  obtain ⟨I0, e0⟩ : ∃ I0, I0 = up2 I l 4 0 := ⟨_, rfl⟩
  have f0 : FrL I I0 l := fun a q => by rw [e0]; exact up2_n _ _ _ (by omega)
  have b0 : LB I0 l 0 := ⟨by rw [e0, up2_s]; exact upd_s, Nat.zero_le _, fun i hi => absurd hi (Nat.not_lt_zero _)⟩
  obtain ⟨I1, e1⟩ : ∃ I1, I1 = jnI I0 l 0 1 0 0 := ⟨_, rfl⟩
  have q1 := jn_f (a := 0) b0 (by decide) (by decide)
  replace q1 : LB I1 l 1 ∧ VB I1 l 0 (fun F => F 0) := by rw [e1]; exact q1
  obtain ⟨b1, v1⟩ := q1
  have x1 : Ext I0 I1 l 0 := by rw [e1]; exact jn_ext
  have f1 : FrL I I1 l := f0.tr (by rw [e1]; exact jn_fr)
  obtain ⟨I2, e2⟩ : ∃ I2, I2 = jnI I1 l 1 0 3 0 := ⟨_, rfl⟩
  have q2 := jn_c (v := 3) b1 (by decide)
  replace q2 : LB I2 l 2 ∧ VB I2 l 1 (fun _ => nI 3) := by rw [e2]; exact q2
  obtain ⟨b2, v2⟩ := q2
  have x2 : Ext I1 I2 l 1 := by rw [e2]; exact jn_ext
  have f2 : FrL I I2 l := f1.tr (by rw [e2]; exact jn_fr)
  obtain ⟨I3, e3⟩ : ∃ I3, I3 = jnI I2 l 2 4 0 1 := ⟨_, rfl⟩
  have q3 := jn_o (k := 4) (a := 0) (b := 1) b2 (by decide) (by decide) (by decide) (by decide) (by decide) (v1.ext (s := 1) x2 (by decide)) v2
  replace q3 : LB I3 l 3 ∧ VB I3 l 2 (fun F => jnF 4 (F 0) (nI 3)) := by rw [e3]; exact q3
  obtain ⟨b3, v3⟩ := q3
  have x3 : Ext I2 I3 l 2 := by rw [e3]; exact jn_ext
  have f3 : FrL I I3 l := f2.tr (by rw [e3]; exact jn_fr)
  obtain ⟨I4, e4⟩ : ∃ I4, I4 = jnI I3 l 3 1 1 0 := ⟨_, rfl⟩
  have q4 := jn_f (a := 1) b3 (by decide) (by decide)
  replace q4 : LB I4 l 4 ∧ VB I4 l 3 (fun F => F 1) := by rw [e4]; exact q4
  obtain ⟨b4, v4⟩ := q4
  have x4 : Ext I3 I4 l 3 := by rw [e4]; exact jn_ext
  have f4 : FrL I I4 l := f3.tr (by rw [e4]; exact jn_fr)
  obtain ⟨I5, e5⟩ : ∃ I5, I5 = jnI I4 l 4 0 4 0 := ⟨_, rfl⟩
  have q5 := jn_c (v := 4) b4 (by decide)
  replace q5 : LB I5 l 5 ∧ VB I5 l 4 (fun _ => nI 4) := by rw [e5]; exact q5
  obtain ⟨b5, v5⟩ := q5
  have x5 : Ext I4 I5 l 4 := by rw [e5]; exact jn_ext
  have f5 : FrL I I5 l := f4.tr (by rw [e5]; exact jn_fr)
  obtain ⟨I6, e6⟩ : ∃ I6, I6 = jnI I5 l 5 4 3 4 := ⟨_, rfl⟩
  have q6 := jn_o (k := 4) (a := 3) (b := 4) b5 (by decide) (by decide) (by decide) (by decide) (by decide) (v4.ext (s := 4) x5 (by decide)) v5
  replace q6 : LB I6 l 6 ∧ VB I6 l 5 (fun F => jnF 4 (F 1) (nI 4)) := by rw [e6]; exact q6
  obtain ⟨b6, v6⟩ := q6
  have x6 : Ext I5 I6 l 5 := by rw [e6]; exact jn_ext
  have f6 : FrL I I6 l := f5.tr (by rw [e6]; exact jn_fr)
  obtain ⟨I7, e7⟩ : ∃ I7, I7 = jnI I6 l 6 3 2 5 := ⟨_, rfl⟩
  have q7 := jn_o (k := 3) (a := 2) (b := 5) b6 (by decide) (by decide) (by decide) (by decide) (by decide) (((v3.ext (s := 3) x4 (by decide)).ext (s := 4) x5 (by decide)).ext (s := 5) x6 (by decide)) v6
  replace q7 : LB I7 l 7 ∧ VB I7 l 6 (fun F => jnF 3 (jnF 4 (F 0) (nI 3)) (jnF 4 (F 1) (nI 4))) := by rw [e7]; exact q7
  obtain ⟨b7, v7⟩ := q7
  have x7 : Ext I6 I7 l 6 := by rw [e7]; exact jn_ext
  have f7 : FrL I I7 l := f6.tr (by rw [e7]; exact jn_fr)
  have hL : LawC I7 l (fun F => clF (3 * F 0 - 4 * F 1)) := ⟨7, by decide, by decide, b7.1, b7.2.2, fun F => by
    show clF (3 * F 0 - 4 * F 1) = clF (evP _ _ _ F (fun _ => 0) (6 + 1) 6)
    rw [v7 F]
    show clF (3 * F 0 - 4 * F 1) = clF (F 0 * 3 - F 1 * 4)
    rw [Int32.mul_comm (F 0), Int32.mul_comm (F 1)]⟩
  show V _ _ _ _ _ _ _ _ [(0, rf G l)] [] _ _ _ _ _
  refine V_aload_n 1 0 rfl _ rfl rfl dX5_beStandard_0 rfl ?_
  refine V_iconst 2 (0) rfl dX5_beStandard_1 rfl ?_
  refine V_putI 5 l 5 4 flX5_27 rfl (ly_l hl).1 rfl (by omega) rfl dX5_beStandard_2 rfl ?_
  rw [← e0]
  refine V_aload_n 6 0 rfl _ rfl rfl dX5_beStandard_5 rfl ?_
  refine V_iconst 7 (4) rfl dX5_beStandard_6 rfl ?_
  refine V_aload_n 8 0 rfl _ rfl rfl dX5_beStandard_7 rfl ?_
  refine V_iconst 9 (1) rfl dX5_beStandard_8 rfl ?_
  refine V_iconst 10 (0) rfl dX5_beStandard_9 rfl ?_
  refine V_iconst 11 (0) rfl dX5_beStandard_10 rfl ?_
  refine V_callV (K' := 0) (S' := 0) 14 l 5 3 [.int 1, .int 0, .int 0] mkX5_join lkX5_31 (by decide) rfl (ly_l hl).1 (by omega) rfl (Nat.le_of_ble_eq_true rfl) (Nat.le_of_ble_eq_true rfl) (Nat.le_of_ble_eq_true rfl) (Nat.le_of_ble_eq_true rfl) rfl rfl dX5_beStandard_11 rfl (c_X5_joinN hn g0 g1 g2 hl b0.1 (by decide) ?_)
  refine Kq_i (k' := 0) (sl' := 0) rfl rfl ?_
  refine V_rwI (show _ = I1 from e1.symm) ?_
  refine V_aload_n 15 0 rfl _ rfl rfl dX5_beStandard_14 rfl ?_
  refine V_iconst 16 (0) rfl dX5_beStandard_15 rfl ?_
  refine V_iconst 17 (3) rfl dX5_beStandard_16 rfl ?_
  refine V_iconst 18 (0) rfl dX5_beStandard_17 rfl ?_
  refine V_callV (K' := 0) (S' := 0) 21 l 5 3 [.int 0, .int 3, .int 0] mkX5_join lkX5_31 (by decide) rfl (ly_l hl).1 (by omega) rfl (Nat.le_of_ble_eq_true rfl) (Nat.le_of_ble_eq_true rfl) (Nat.le_of_ble_eq_true rfl) (Nat.le_of_ble_eq_true rfl) rfl rfl dX5_beStandard_18 rfl (c_X5_joinN hn g0 g1 g2 hl b1.1 (by decide) ?_)
  refine Kq_i (k' := 0) (sl' := 0) rfl rfl ?_
  refine V_rwI (show _ = I2 from e2.symm) ?_
  refine V_callV (K' := 0) (S' := 0) 24 l 5 3 [.int 4, .int (nI 0), .int (nI 1)] mkX5_join lkX5_31 (by decide) rfl (ly_l hl).1 (by omega) rfl (Nat.le_of_ble_eq_true rfl) (Nat.le_of_ble_eq_true rfl) (Nat.le_of_ble_eq_true rfl) (Nat.le_of_ble_eq_true rfl) rfl rfl dX5_beStandard_21 rfl (c_X5_joinN hn g0 g1 g2 hl b2.1 (by decide) ?_)
  refine Kq_i (k' := 0) (sl' := 0) rfl rfl ?_
  refine V_rwI (show _ = I3 from e3.symm) ?_
  refine V_istore_n 25 [(1, .int (nI 2)), (0, rf G l)] (by decide) rfl rfl dX5_beStandard_24 rfl ?_
  refine V_aload_n 26 1 rfl _ rfl rfl dX5_beStandard_25 rfl ?_
  refine V_iconst 27 (4) rfl dX5_beStandard_26 rfl ?_
  refine V_aload_n 28 1 rfl _ rfl rfl dX5_beStandard_27 rfl ?_
  refine V_iconst 29 (1) rfl dX5_beStandard_28 rfl ?_
  refine V_iconst 30 (1) rfl dX5_beStandard_29 rfl ?_
  refine V_iconst 31 (0) rfl dX5_beStandard_30 rfl ?_
  refine V_callV (K' := 0) (S' := 0) 34 l 5 3 [.int 1, .int 1, .int 0] mkX5_join lkX5_31 (by decide) rfl (ly_l hl).1 (by omega) rfl (Nat.le_of_ble_eq_true rfl) (Nat.le_of_ble_eq_true rfl) (Nat.le_of_ble_eq_true rfl) (Nat.le_of_ble_eq_true rfl) rfl rfl dX5_beStandard_31 rfl (c_X5_joinN hn g0 g1 g2 hl b3.1 (by decide) ?_)
  refine Kq_i (k' := 0) (sl' := 0) rfl rfl ?_
  refine V_rwI (show _ = I4 from e4.symm) ?_
  refine V_aload_n 35 1 rfl _ rfl rfl dX5_beStandard_34 rfl ?_
  refine V_iconst 36 (0) rfl dX5_beStandard_35 rfl ?_
  refine V_iconst 37 (4) rfl dX5_beStandard_36 rfl ?_
  refine V_iconst 38 (0) rfl dX5_beStandard_37 rfl ?_
  refine V_callV (K' := 0) (S' := 0) 41 l 5 3 [.int 0, .int 4, .int 0] mkX5_join lkX5_31 (by decide) rfl (ly_l hl).1 (by omega) rfl (Nat.le_of_ble_eq_true rfl) (Nat.le_of_ble_eq_true rfl) (Nat.le_of_ble_eq_true rfl) (Nat.le_of_ble_eq_true rfl) rfl rfl dX5_beStandard_38 rfl (c_X5_joinN hn g0 g1 g2 hl b4.1 (by decide) ?_)
  refine Kq_i (k' := 0) (sl' := 0) rfl rfl ?_
  refine V_rwI (show _ = I5 from e5.symm) ?_
  refine V_callV (K' := 0) (S' := 0) 44 l 5 3 [.int 4, .int (nI 3), .int (nI 4)] mkX5_join lkX5_31 (by decide) rfl (ly_l hl).1 (by omega) rfl (Nat.le_of_ble_eq_true rfl) (Nat.le_of_ble_eq_true rfl) (Nat.le_of_ble_eq_true rfl) (Nat.le_of_ble_eq_true rfl) rfl rfl dX5_beStandard_41 rfl (c_X5_joinN hn g0 g1 g2 hl b5.1 (by decide) ?_)
  refine Kq_i (k' := 0) (sl' := 0) rfl rfl ?_
  refine V_rwI (show _ = I6 from e6.symm) ?_
  refine V_istore_n 45 [(2, .int (nI 5)), (1, .int (nI 2)), (0, rf G l)] (by decide) rfl rfl dX5_beStandard_44 rfl ?_
  refine V_aload_n 46 2 rfl _ rfl rfl dX5_beStandard_45 rfl ?_
  refine V_iconst 47 (3) rfl dX5_beStandard_46 rfl ?_
  refine V_iload_n 48 1 rfl rfl dX5_beStandard_47 rfl ?_
  refine V_iload_n 49 0 rfl rfl dX5_beStandard_48 rfl ?_
  refine V_callV (K' := 0) (S' := 0) 52 l 5 3 [.int 3, .int (nI 2), .int (nI 5)] mkX5_join lkX5_31 (by decide) rfl (ly_l hl).1 (by omega) rfl (Nat.le_of_ble_eq_true rfl) (Nat.le_of_ble_eq_true rfl) (Nat.le_of_ble_eq_true rfl) (Nat.le_of_ble_eq_true rfl) rfl rfl dX5_beStandard_49 rfl (c_X5_joinN hn g0 g1 g2 hl b6.1 (by decide) ?_)
  refine Kq_i (k' := 0) (sl' := 0) rfl rfl ?_
  refine V_rwI (show _ = I7 from e7.symm) ?_
  refine V_pop 53 rfl dX5_beStandard_52 rfl ?_
  refine V_ret_v rfl (Nat.le_of_ble_eq_true rfl) (fun _ => Nat.le_refl _) (Nat.le_of_ble_eq_true rfl) (hq I7 hL f7) dX5_beStandard_53
theorem c_J7_fillN_19 {G : Gx} {d n : Nat} {I : FI} {R : FR} {J : FJ} {Q : Po} (hn : 26 ≤ n) {v : Int32} (hq : Q (.inl none) n (upA I 19 (fiF (I 19) v 6)) R J) : Cc G mJ7_fill_53178 d 0 0 [rf G 19, .int v] n I R J Q := by
  have L : ∀ i, i ≤ 6 → V G mJ7_fill_53178 d 0 0 0 0 5 [(2, .int (nI i)), (3, .int 6), (0, rf G 19), (1, .int v)] [] n (upA I 19 (fiF (I 19) v i)) R J Q := by
    refine loopd 6 ?_ (fun i hi ih => ?_)
    · refine V_iload_n 6 0 rfl rfl dJ7_fill_53178_5 rfl ?_
      refine V_iload_n 7 1 rfl rfl dJ7_fill_53178_6 rfl ?_
      refine V_icmp_ge 20 10 rfl dJ7_fill_53178_7 rfl (fun c7 => ?_) (fun c7 => absurd (Int32.le_refl _) c7)
      refine V_ret_v rfl (Nat.le_of_ble_eq_true rfl) (fun _ => Nat.le_refl _) (Nat.le_of_ble_eq_true rfl) (hq) dJ7_fill_53178_20
    · refine V_iload_n 6 0 rfl rfl dJ7_fill_53178_5 rfl ?_
      refine V_iload_n 7 1 rfl rfl dJ7_fill_53178_6 rfl ?_
      refine V_icmp_ge 20 10 rfl dJ7_fill_53178_7 rfl (fun c7 => absurd c7 (nI_ge hi (by decide))) (fun c7 => ?_)
      refine V_aload_n 11 2 rfl _ rfl rfl dJ7_fill_53178_10 rfl ?_
      refine V_iload_n 12 0 rfl rfl dJ7_fill_53178_11 rfl ?_
      refine V_iload_n 13 3 rfl rfl dJ7_fill_53178_12 rfl ?_
      refine V_iastN 14 19 6 i (by omega) (by decide) rfl (by omega) dJ7_fill_53178_13 rfl ?_
      refine V_iinc 17 0 rfl (nI (i + 1)) [(2, .int (nI (i + 1))), (3, .int 6), (0, rf G 19), (1, .int v)] (nI_1 _) (by decide) rfl dJ7_fill_53178_14 rfl ?_
      refine V_goto 5 rfl dJ7_fill_53178_17 ?_
      rw [upA_u, fiF_s]
      exact V_lv [0, 1, 2, 3] rfl ih
  show V _ _ _ _ _ _ _ _ [(0, rf G 19), (1, .int v)] [] _ _ _ _ _
  refine V_iconst 1 (0) rfl dJ7_fill_53178_0 rfl ?_
  refine V_istore_n 2 [(2, .int 0), (0, rf G 19), (1, .int v)] (by decide) rfl rfl dJ7_fill_53178_1 rfl ?_
  refine V_aload_n 3 1 rfl _ rfl rfl dJ7_fill_53178_2 rfl ?_
  refine V_alen 4 19 0 6 6 rfl (by decide) rfl (by omega) dJ7_fill_53178_3 rfl ?_
  refine V_istore_n 5 [(3, .int 6), (2, .int 0), (0, rf G 19), (1, .int v)] (by decide) rfl rfl dJ7_fill_53178_4 rfl ?_
  refine V_rwI (upA_fi0 (a := 19) (v := v)) ?_
  exact V_lv [1, 0, 2, 3] rfl (L 0 (Nat.zero_le _))
theorem c_J7_fillN_20 {G : Gx} {d n : Nat} {I : FI} {R : FR} {J : FJ} {Q : Po} (hn : 26 ≤ n) {v : Int32} (hq : Q (.inl none) n (upA I 20 (fiF (I 20) v 6)) R J) : Cc G mJ7_fill_53178 d 0 0 [rf G 20, .int v] n I R J Q := by
  have L : ∀ i, i ≤ 6 → V G mJ7_fill_53178 d 0 0 0 0 5 [(2, .int (nI i)), (3, .int 6), (0, rf G 20), (1, .int v)] [] n (upA I 20 (fiF (I 20) v i)) R J Q := by
    refine loopd 6 ?_ (fun i hi ih => ?_)
    · refine V_iload_n 6 0 rfl rfl dJ7_fill_53178_5 rfl ?_
      refine V_iload_n 7 1 rfl rfl dJ7_fill_53178_6 rfl ?_
      refine V_icmp_ge 20 10 rfl dJ7_fill_53178_7 rfl (fun c7 => ?_) (fun c7 => absurd (Int32.le_refl _) c7)
      refine V_ret_v rfl (Nat.le_of_ble_eq_true rfl) (fun _ => Nat.le_refl _) (Nat.le_of_ble_eq_true rfl) (hq) dJ7_fill_53178_20
    · refine V_iload_n 6 0 rfl rfl dJ7_fill_53178_5 rfl ?_
      refine V_iload_n 7 1 rfl rfl dJ7_fill_53178_6 rfl ?_
      refine V_icmp_ge 20 10 rfl dJ7_fill_53178_7 rfl (fun c7 => absurd c7 (nI_ge hi (by decide))) (fun c7 => ?_)
      refine V_aload_n 11 2 rfl _ rfl rfl dJ7_fill_53178_10 rfl ?_
      refine V_iload_n 12 0 rfl rfl dJ7_fill_53178_11 rfl ?_
      refine V_iload_n 13 3 rfl rfl dJ7_fill_53178_12 rfl ?_
      refine V_iastN 14 20 6 i (by omega) (by decide) rfl (by omega) dJ7_fill_53178_13 rfl ?_
      refine V_iinc 17 0 rfl (nI (i + 1)) [(2, .int (nI (i + 1))), (3, .int 6), (0, rf G 20), (1, .int v)] (nI_1 _) (by decide) rfl dJ7_fill_53178_14 rfl ?_
      refine V_goto 5 rfl dJ7_fill_53178_17 ?_
      rw [upA_u, fiF_s]
      exact V_lv [0, 1, 2, 3] rfl ih
  show V _ _ _ _ _ _ _ _ [(0, rf G 20), (1, .int v)] [] _ _ _ _ _
  refine V_iconst 1 (0) rfl dJ7_fill_53178_0 rfl ?_
  refine V_istore_n 2 [(2, .int 0), (0, rf G 20), (1, .int v)] (by decide) rfl rfl dJ7_fill_53178_1 rfl ?_
  refine V_aload_n 3 1 rfl _ rfl rfl dJ7_fill_53178_2 rfl ?_
  refine V_alen 4 20 0 6 6 rfl (by decide) rfl (by omega) dJ7_fill_53178_3 rfl ?_
  refine V_istore_n 5 [(3, .int 6), (2, .int 0), (0, rf G 20), (1, .int v)] (by decide) rfl rfl dJ7_fill_53178_4 rfl ?_
  refine V_rwI (upA_fi0 (a := 20) (v := v)) ?_
  exact V_lv [1, 0, 2, 3] rfl (L 0 (Nat.zero_le _))
theorem c_J7_fillN_21 {G : Gx} {d n : Nat} {I : FI} {R : FR} {J : FJ} {Q : Po} (hn : 26 ≤ n) {v : Int32} (hq : Q (.inl none) n (upA I 21 (fiF (I 21) v 6)) R J) : Cc G mJ7_fill_53178 d 0 0 [rf G 21, .int v] n I R J Q := by
  have L : ∀ i, i ≤ 6 → V G mJ7_fill_53178 d 0 0 0 0 5 [(2, .int (nI i)), (3, .int 6), (0, rf G 21), (1, .int v)] [] n (upA I 21 (fiF (I 21) v i)) R J Q := by
    refine loopd 6 ?_ (fun i hi ih => ?_)
    · refine V_iload_n 6 0 rfl rfl dJ7_fill_53178_5 rfl ?_
      refine V_iload_n 7 1 rfl rfl dJ7_fill_53178_6 rfl ?_
      refine V_icmp_ge 20 10 rfl dJ7_fill_53178_7 rfl (fun c7 => ?_) (fun c7 => absurd (Int32.le_refl _) c7)
      refine V_ret_v rfl (Nat.le_of_ble_eq_true rfl) (fun _ => Nat.le_refl _) (Nat.le_of_ble_eq_true rfl) (hq) dJ7_fill_53178_20
    · refine V_iload_n 6 0 rfl rfl dJ7_fill_53178_5 rfl ?_
      refine V_iload_n 7 1 rfl rfl dJ7_fill_53178_6 rfl ?_
      refine V_icmp_ge 20 10 rfl dJ7_fill_53178_7 rfl (fun c7 => absurd c7 (nI_ge hi (by decide))) (fun c7 => ?_)
      refine V_aload_n 11 2 rfl _ rfl rfl dJ7_fill_53178_10 rfl ?_
      refine V_iload_n 12 0 rfl rfl dJ7_fill_53178_11 rfl ?_
      refine V_iload_n 13 3 rfl rfl dJ7_fill_53178_12 rfl ?_
      refine V_iastN 14 21 6 i (by omega) (by decide) rfl (by omega) dJ7_fill_53178_13 rfl ?_
      refine V_iinc 17 0 rfl (nI (i + 1)) [(2, .int (nI (i + 1))), (3, .int 6), (0, rf G 21), (1, .int v)] (nI_1 _) (by decide) rfl dJ7_fill_53178_14 rfl ?_
      refine V_goto 5 rfl dJ7_fill_53178_17 ?_
      rw [upA_u, fiF_s]
      exact V_lv [0, 1, 2, 3] rfl ih
  show V _ _ _ _ _ _ _ _ [(0, rf G 21), (1, .int v)] [] _ _ _ _ _
  refine V_iconst 1 (0) rfl dJ7_fill_53178_0 rfl ?_
  refine V_istore_n 2 [(2, .int 0), (0, rf G 21), (1, .int v)] (by decide) rfl rfl dJ7_fill_53178_1 rfl ?_
  refine V_aload_n 3 1 rfl _ rfl rfl dJ7_fill_53178_2 rfl ?_
  refine V_alen 4 21 0 6 6 rfl (by decide) rfl (by omega) dJ7_fill_53178_3 rfl ?_
  refine V_istore_n 5 [(3, .int 6), (2, .int 0), (0, rf G 21), (1, .int v)] (by decide) rfl rfl dJ7_fill_53178_4 rfl ?_
  refine V_rwI (upA_fi0 (a := 21) (v := v)) ?_
  exact V_lv [1, 0, 2, 3] rfl (L 0 (Nat.zero_le _))
theorem c_J7_fillN_22 {G : Gx} {d n : Nat} {I : FI} {R : FR} {J : FJ} {Q : Po} (hn : 26 ≤ n) {v : Int32} (hq : Q (.inl none) n (upA I 22 (fiF (I 22) v 6)) R J) : Cc G mJ7_fill_53178 d 0 0 [rf G 22, .int v] n I R J Q := by
  have L : ∀ i, i ≤ 6 → V G mJ7_fill_53178 d 0 0 0 0 5 [(2, .int (nI i)), (3, .int 6), (0, rf G 22), (1, .int v)] [] n (upA I 22 (fiF (I 22) v i)) R J Q := by
    refine loopd 6 ?_ (fun i hi ih => ?_)
    · refine V_iload_n 6 0 rfl rfl dJ7_fill_53178_5 rfl ?_
      refine V_iload_n 7 1 rfl rfl dJ7_fill_53178_6 rfl ?_
      refine V_icmp_ge 20 10 rfl dJ7_fill_53178_7 rfl (fun c7 => ?_) (fun c7 => absurd (Int32.le_refl _) c7)
      refine V_ret_v rfl (Nat.le_of_ble_eq_true rfl) (fun _ => Nat.le_refl _) (Nat.le_of_ble_eq_true rfl) (hq) dJ7_fill_53178_20
    · refine V_iload_n 6 0 rfl rfl dJ7_fill_53178_5 rfl ?_
      refine V_iload_n 7 1 rfl rfl dJ7_fill_53178_6 rfl ?_
      refine V_icmp_ge 20 10 rfl dJ7_fill_53178_7 rfl (fun c7 => absurd c7 (nI_ge hi (by decide))) (fun c7 => ?_)
      refine V_aload_n 11 2 rfl _ rfl rfl dJ7_fill_53178_10 rfl ?_
      refine V_iload_n 12 0 rfl rfl dJ7_fill_53178_11 rfl ?_
      refine V_iload_n 13 3 rfl rfl dJ7_fill_53178_12 rfl ?_
      refine V_iastN 14 22 6 i (by omega) (by decide) rfl (by omega) dJ7_fill_53178_13 rfl ?_
      refine V_iinc 17 0 rfl (nI (i + 1)) [(2, .int (nI (i + 1))), (3, .int 6), (0, rf G 22), (1, .int v)] (nI_1 _) (by decide) rfl dJ7_fill_53178_14 rfl ?_
      refine V_goto 5 rfl dJ7_fill_53178_17 ?_
      rw [upA_u, fiF_s]
      exact V_lv [0, 1, 2, 3] rfl ih
  show V _ _ _ _ _ _ _ _ [(0, rf G 22), (1, .int v)] [] _ _ _ _ _
  refine V_iconst 1 (0) rfl dJ7_fill_53178_0 rfl ?_
  refine V_istore_n 2 [(2, .int 0), (0, rf G 22), (1, .int v)] (by decide) rfl rfl dJ7_fill_53178_1 rfl ?_
  refine V_aload_n 3 1 rfl _ rfl rfl dJ7_fill_53178_2 rfl ?_
  refine V_alen 4 22 0 6 6 rfl (by decide) rfl (by omega) dJ7_fill_53178_3 rfl ?_
  refine V_istore_n 5 [(3, .int 6), (2, .int 0), (0, rf G 22), (1, .int v)] (by decide) rfl rfl dJ7_fill_53178_4 rfl ?_
  refine V_rwI (upA_fi0 (a := 22) (v := v)) ?_
  exact V_lv [1, 0, 2, 3] rfl (L 0 (Nat.zero_le _))
theorem c_J7_fillN_23 {G : Gx} {d n : Nat} {I : FI} {R : FR} {J : FJ} {Q : Po} (hn : 26 ≤ n) {v : Int32} (hq : Q (.inl none) n (upA I 23 (fiF (I 23) v 6)) R J) : Cc G mJ7_fill_53178 d 0 0 [rf G 23, .int v] n I R J Q := by
  have L : ∀ i, i ≤ 6 → V G mJ7_fill_53178 d 0 0 0 0 5 [(2, .int (nI i)), (3, .int 6), (0, rf G 23), (1, .int v)] [] n (upA I 23 (fiF (I 23) v i)) R J Q := by
    refine loopd 6 ?_ (fun i hi ih => ?_)
    · refine V_iload_n 6 0 rfl rfl dJ7_fill_53178_5 rfl ?_
      refine V_iload_n 7 1 rfl rfl dJ7_fill_53178_6 rfl ?_
      refine V_icmp_ge 20 10 rfl dJ7_fill_53178_7 rfl (fun c7 => ?_) (fun c7 => absurd (Int32.le_refl _) c7)
      refine V_ret_v rfl (Nat.le_of_ble_eq_true rfl) (fun _ => Nat.le_refl _) (Nat.le_of_ble_eq_true rfl) (hq) dJ7_fill_53178_20
    · refine V_iload_n 6 0 rfl rfl dJ7_fill_53178_5 rfl ?_
      refine V_iload_n 7 1 rfl rfl dJ7_fill_53178_6 rfl ?_
      refine V_icmp_ge 20 10 rfl dJ7_fill_53178_7 rfl (fun c7 => absurd c7 (nI_ge hi (by decide))) (fun c7 => ?_)
      refine V_aload_n 11 2 rfl _ rfl rfl dJ7_fill_53178_10 rfl ?_
      refine V_iload_n 12 0 rfl rfl dJ7_fill_53178_11 rfl ?_
      refine V_iload_n 13 3 rfl rfl dJ7_fill_53178_12 rfl ?_
      refine V_iastN 14 23 6 i (by omega) (by decide) rfl (by omega) dJ7_fill_53178_13 rfl ?_
      refine V_iinc 17 0 rfl (nI (i + 1)) [(2, .int (nI (i + 1))), (3, .int 6), (0, rf G 23), (1, .int v)] (nI_1 _) (by decide) rfl dJ7_fill_53178_14 rfl ?_
      refine V_goto 5 rfl dJ7_fill_53178_17 ?_
      rw [upA_u, fiF_s]
      exact V_lv [0, 1, 2, 3] rfl ih
  show V _ _ _ _ _ _ _ _ [(0, rf G 23), (1, .int v)] [] _ _ _ _ _
  refine V_iconst 1 (0) rfl dJ7_fill_53178_0 rfl ?_
  refine V_istore_n 2 [(2, .int 0), (0, rf G 23), (1, .int v)] (by decide) rfl rfl dJ7_fill_53178_1 rfl ?_
  refine V_aload_n 3 1 rfl _ rfl rfl dJ7_fill_53178_2 rfl ?_
  refine V_alen 4 23 0 6 6 rfl (by decide) rfl (by omega) dJ7_fill_53178_3 rfl ?_
  refine V_istore_n 5 [(3, .int 6), (2, .int 0), (0, rf G 23), (1, .int v)] (by decide) rfl rfl dJ7_fill_53178_4 rfl ?_
  refine V_rwI (upA_fi0 (a := 23) (v := v)) ?_
  exact V_lv [1, 0, 2, 3] rfl (L 0 (Nat.zero_le _))
theorem c_J7_fillN_24 {G : Gx} {d n : Nat} {I : FI} {R : FR} {J : FJ} {Q : Po} (hn : 26 ≤ n) {v : Int32} (hq : Q (.inl none) n (upA I 24 (fiF (I 24) v 8)) R J) : Cc G mJ7_fill_53178 d 0 0 [rf G 24, .int v] n I R J Q := by
  have L : ∀ i, i ≤ 8 → V G mJ7_fill_53178 d 0 0 0 0 5 [(2, .int (nI i)), (3, .int 8), (0, rf G 24), (1, .int v)] [] n (upA I 24 (fiF (I 24) v i)) R J Q := by
    refine loopd 8 ?_ (fun i hi ih => ?_)
    · refine V_iload_n 6 0 rfl rfl dJ7_fill_53178_5 rfl ?_
      refine V_iload_n 7 1 rfl rfl dJ7_fill_53178_6 rfl ?_
      refine V_icmp_ge 20 10 rfl dJ7_fill_53178_7 rfl (fun c7 => ?_) (fun c7 => absurd (Int32.le_refl _) c7)
      refine V_ret_v rfl (Nat.le_of_ble_eq_true rfl) (fun _ => Nat.le_refl _) (Nat.le_of_ble_eq_true rfl) (hq) dJ7_fill_53178_20
    · refine V_iload_n 6 0 rfl rfl dJ7_fill_53178_5 rfl ?_
      refine V_iload_n 7 1 rfl rfl dJ7_fill_53178_6 rfl ?_
      refine V_icmp_ge 20 10 rfl dJ7_fill_53178_7 rfl (fun c7 => absurd c7 (nI_ge hi (by decide))) (fun c7 => ?_)
      refine V_aload_n 11 2 rfl _ rfl rfl dJ7_fill_53178_10 rfl ?_
      refine V_iload_n 12 0 rfl rfl dJ7_fill_53178_11 rfl ?_
      refine V_iload_n 13 3 rfl rfl dJ7_fill_53178_12 rfl ?_
      refine V_iastN 14 24 8 i (by omega) (by decide) rfl (by omega) dJ7_fill_53178_13 rfl ?_
      refine V_iinc 17 0 rfl (nI (i + 1)) [(2, .int (nI (i + 1))), (3, .int 8), (0, rf G 24), (1, .int v)] (nI_1 _) (by decide) rfl dJ7_fill_53178_14 rfl ?_
      refine V_goto 5 rfl dJ7_fill_53178_17 ?_
      rw [upA_u, fiF_s]
      exact V_lv [0, 1, 2, 3] rfl ih
  show V _ _ _ _ _ _ _ _ [(0, rf G 24), (1, .int v)] [] _ _ _ _ _
  refine V_iconst 1 (0) rfl dJ7_fill_53178_0 rfl ?_
  refine V_istore_n 2 [(2, .int 0), (0, rf G 24), (1, .int v)] (by decide) rfl rfl dJ7_fill_53178_1 rfl ?_
  refine V_aload_n 3 1 rfl _ rfl rfl dJ7_fill_53178_2 rfl ?_
  refine V_alen 4 24 0 8 8 rfl (by decide) rfl (by omega) dJ7_fill_53178_3 rfl ?_
  refine V_istore_n 5 [(3, .int 8), (2, .int 0), (0, rf G 24), (1, .int v)] (by decide) rfl rfl dJ7_fill_53178_4 rfl ?_
  refine V_rwI (upA_fi0 (a := 24) (v := v)) ?_
  exact V_lv [1, 0, 2, 3] rfl (L 0 (Nat.zero_le _))
theorem c_J7_fillN_25 {G : Gx} {d n : Nat} {I : FI} {R : FR} {J : FJ} {Q : Po} (hn : 26 ≤ n) {v : Int32} (hq : Q (.inl none) n (upA I 25 (fiF (I 25) v 6)) R J) : Cc G mJ7_fill_53178 d 0 0 [rf G 25, .int v] n I R J Q := by
  have L : ∀ i, i ≤ 6 → V G mJ7_fill_53178 d 0 0 0 0 5 [(2, .int (nI i)), (3, .int 6), (0, rf G 25), (1, .int v)] [] n (upA I 25 (fiF (I 25) v i)) R J Q := by
    refine loopd 6 ?_ (fun i hi ih => ?_)
    · refine V_iload_n 6 0 rfl rfl dJ7_fill_53178_5 rfl ?_
      refine V_iload_n 7 1 rfl rfl dJ7_fill_53178_6 rfl ?_
      refine V_icmp_ge 20 10 rfl dJ7_fill_53178_7 rfl (fun c7 => ?_) (fun c7 => absurd (Int32.le_refl _) c7)
      refine V_ret_v rfl (Nat.le_of_ble_eq_true rfl) (fun _ => Nat.le_refl _) (Nat.le_of_ble_eq_true rfl) (hq) dJ7_fill_53178_20
    · refine V_iload_n 6 0 rfl rfl dJ7_fill_53178_5 rfl ?_
      refine V_iload_n 7 1 rfl rfl dJ7_fill_53178_6 rfl ?_
      refine V_icmp_ge 20 10 rfl dJ7_fill_53178_7 rfl (fun c7 => absurd c7 (nI_ge hi (by decide))) (fun c7 => ?_)
      refine V_aload_n 11 2 rfl _ rfl rfl dJ7_fill_53178_10 rfl ?_
      refine V_iload_n 12 0 rfl rfl dJ7_fill_53178_11 rfl ?_
      refine V_iload_n 13 3 rfl rfl dJ7_fill_53178_12 rfl ?_
      refine V_iastN 14 25 6 i (by omega) (by decide) rfl (by omega) dJ7_fill_53178_13 rfl ?_
      refine V_iinc 17 0 rfl (nI (i + 1)) [(2, .int (nI (i + 1))), (3, .int 6), (0, rf G 25), (1, .int v)] (nI_1 _) (by decide) rfl dJ7_fill_53178_14 rfl ?_
      refine V_goto 5 rfl dJ7_fill_53178_17 ?_
      rw [upA_u, fiF_s]
      exact V_lv [0, 1, 2, 3] rfl ih
  show V _ _ _ _ _ _ _ _ [(0, rf G 25), (1, .int v)] [] _ _ _ _ _
  refine V_iconst 1 (0) rfl dJ7_fill_53178_0 rfl ?_
  refine V_istore_n 2 [(2, .int 0), (0, rf G 25), (1, .int v)] (by decide) rfl rfl dJ7_fill_53178_1 rfl ?_
  refine V_aload_n 3 1 rfl _ rfl rfl dJ7_fill_53178_2 rfl ?_
  refine V_alen 4 25 0 6 6 rfl (by decide) rfl (by omega) dJ7_fill_53178_3 rfl ?_
  refine V_istore_n 5 [(3, .int 6), (2, .int 0), (0, rf G 25), (1, .int v)] (by decide) rfl rfl dJ7_fill_53178_4 rfl ?_
  refine V_rwI (upA_fi0 (a := 25) (v := v)) ?_
  exact V_lv [1, 0, 2, 3] rfl (L 0 (Nat.zero_le _))
/-- the days as they begin -/
def day0 (K : CO) : DV := fun k => if k < 12 then -1 else if k < 30 then 0 else if k < 36 then (if k - 30 < cM K then 1 else 0) else if k < 44 then 0 else if k < 50 then (if k - 44 < cG K then cGr K (2 * (k - 44)) else 0) else 0
theorem d0_on {K : CO} {k : Nat} (h : k < 12) : day0 K k = -1 := if_pos h
theorem d0_z {K : CO} {k : Nat} (h1 : 12 ≤ k) (h : k < 30) : day0 K k = 0 := by unfold day0; rw [if_neg (by omega), if_pos h]
theorem d0_l {K : CO} {m : Nat} (h : m < 6) : day0 K (30 + m) = if m < cM K then 1 else 0 := by unfold day0; rw [if_neg (by omega), if_neg (by omega), if_pos (by omega), show 30 + m - 30 = m by omega]
theorem d0_o {K : CO} {k : Nat} (h : k < 8) : day0 K (36 + k) = 0 := by unfold day0; rw [if_neg (by omega), if_neg (by omega), if_neg (by omega), if_pos (by omega)]
theorem d0_f {K : CO} {g : Nat} (h : g < 6) : day0 K (44 + g) = if g < cG K then cGr K (2 * g) else 0 := by unfold day0; rw [if_neg (by omega), if_neg (by omega), if_neg (by omega), if_neg (by omega), if_pos (by omega), show 44 + g - 44 = g by omega]
theorem d0_h {K : CO} : day0 K 50 = 0 := by unfold day0; rw [if_neg (by omega), if_neg (by omega), if_neg (by omega), if_neg (by omega), if_neg (by omega)]
theorem d0_liv {K : CO} (h : cM K ≤ 6) : livB (day0 K) 6 = (1 : Int32) <<< (nI (cM K) &&& 31) - 1 := by
  have key : ∀ m, m ≤ 6 → ((((((((0 : Int32) ||| ((if 0 < m then 1 else 0 : Int32) <<< (nI 0 &&& 31))) ||| ((if 1 < m then 1 else 0 : Int32) <<< (nI 1 &&& 31))) ||| ((if 2 < m then 1 else 0 : Int32) <<< (nI 2 &&& 31))) ||| ((if 3 < m then 1 else 0 : Int32) <<< (nI 3 &&& 31))) ||| ((if 4 < m then 1 else 0 : Int32) <<< (nI 4 &&& 31))) ||| ((if 5 < m then 1 else 0 : Int32) <<< (nI 5 &&& 31)))) = (1 : Int32) <<< (nI m &&& 31) - 1 := by decide +kernel
  rw [← key (cM K) h]
  unfold livB livB livB livB livB livB livB
  rw [d0_l (by decide), d0_l (by decide), d0_l (by decide), d0_l (by decide), d0_l (by decide), d0_l (by decide)]
theorem d0_LX {K : CO} : LX (day0 K) := ⟨fun h hh => ⟨0, by decide, d0_o hh⟩, 0, by decide, d0_h⟩
theorem c_X3_begin {G : Gx} {d n : Nat} {I : FI} {R : FR} {J : FJ} {Q : Po} (hn : 69 ≤ n) (hR : ∀ k, k < 7 → R 18 k = some (19 + k)) {c : Nat} (hc : c = 4 ∨ c = 51) (hR2 : R c 2 = some (c + 3)) {K : CO} (hC : CoastC I c K) (h6 : cG K ≤ 6) (hm6 : cM K ≤ 6) (hq : ∀ I', DayC I' 18 (day0 K) → FrC I I' 18 → Q (.inl none) n I' R J) : Cc G mX3_begin (d + 1) 0 0 [rf G 18, rf G c] n I R J Q := by
  obtain ⟨I1, e1⟩ : ∃ I1, I1 = upA I 19 (fiF (I 19) 0 6) := ⟨_, rfl⟩
  obtain ⟨I2, e2⟩ : ∃ I2, I2 = upA I1 20 (fiF (I1 20) (-1) 6) := ⟨_, rfl⟩
  obtain ⟨I3, e3⟩ : ∃ I3, I3 = upA I2 21 (fiF (I2 21) (-1) 6) := ⟨_, rfl⟩
  obtain ⟨I4, e4⟩ : ∃ I4, I4 = upA I3 22 (fiF (I3 22) 0 6) := ⟨_, rfl⟩
  obtain ⟨I5, e5⟩ : ∃ I5, I5 = upA I4 23 (fiF (I4 23) 0 6) := ⟨_, rfl⟩
  obtain ⟨I6, e6⟩ : ∃ I6, I6 = upA I5 24 (fiF (I5 24) 0 8) := ⟨_, rfl⟩
  obtain ⟨I7, e7⟩ : ∃ I7, I7 = upA I6 25 (fiF (I6 25) 0 6) := ⟨_, rfl⟩
  have hf : FrC I I7 18 := fun a ha => by rw [e7, upA_n (by omega), e6, upA_n (by omega), e5, upA_n (by omega), e4, upA_n (by omega), e3, upA_n (by omega), e2, upA_n (by omega), e1, upA_n (by omega)]
  have hC7 : CoastC I7 c K := hC.fr (fun a q1 q2 => hf a (by omega))
  obtain ⟨I8, e8⟩ : ∃ I8, I8 = upA I7 25 (va_cpy (I7 (c + 3)) (I7 25) (0 : Int32).toNatClampNeg (0 : Int32).toNatClampNeg (nI (cG K)).toNatClampNeg) := ⟨_, rfl⟩
  have zc : (nI (cG K)).toNatClampNeg = cG K := nI_clamp (by omega)
  have hC8 : CoastC I8 c K := hC7.fr (fun a q1 q2 => by rw [e8]; exact upA_n (by omega))
  have h9 : ∀ g, g < 6 → I8 25 g = day0 K (44 + g) := fun g hg => by
    rw [e8, upA_s, zc, d0_f hg]
    show (if 0 ≤ g ∧ g < 0 + cG K then I7 (c + 3) (0 + (g - 0)) else I7 25 g) = _
    by_cases q : g < cG K
    · rw [if_pos ⟨Nat.zero_le _, by omega⟩, if_pos q, show 0 + (g - 0) = g by omega]; exact hC7.2.2.2.2.2.1 g q
    · rw [if_neg (by omega), if_neg q, e7, upA_s]; exact if_pos hg
  have k8 : ∀ a, a ≠ 25 → I8 a = I7 a := fun a h => by rw [e8]; exact upA_n h
  have hD : DayC (up2 (up2 I8 18 7 0) 18 8 ((1 : Int32) <<< (nI (cM K) &&& 31) - 1)) 18 (day0 K) := by
    have g : ∀ a, a ≠ 18 → (up2 (up2 I8 18 7 0) 18 8 ((1 : Int32) <<< (nI (cM K) &&& 31) - 1)) a = I8 a := fun a h => by rw [up2_n _ _ _ h, up2_n _ _ _ h]
    refine ⟨fun m hm => ?_, fun m hm => ?_, fun m hm => ?_, fun m hm => ?_, fun m hm => ?_, fun m hm => ?_, fun m hm => ?_, ?_, ?_⟩
    · rw [g _ (by decide), k8 _ (by decide), e7, upA_n (by decide), e6, upA_n (by decide), e5, upA_n (by decide), e4, upA_n (by decide), e3, upA_n (by decide), e2, upA_n (by decide), e1, upA_s, d0_z (by omega) (by omega)]; exact if_pos hm
    · rw [g _ (by decide), k8 _ (by decide), e7, upA_n (by decide), e6, upA_n (by decide), e5, upA_n (by decide), e4, upA_n (by decide), e3, upA_n (by decide), e2, upA_s, d0_on (by omega)]; exact if_pos hm
    · rw [g _ (by decide), k8 _ (by decide), e7, upA_n (by decide), e6, upA_n (by decide), e5, upA_n (by decide), e4, upA_n (by decide), e3, upA_s, d0_on (by omega)]; exact if_pos hm
    · rw [g _ (by decide), k8 _ (by decide), e7, upA_n (by decide), e6, upA_n (by decide), e5, upA_n (by decide), e4, upA_s, d0_z (by omega) (by omega)]; exact if_pos hm
    · rw [g _ (by decide), k8 _ (by decide), e7, upA_n (by decide), e6, upA_n (by decide), e5, upA_s, d0_z (by omega) (by omega)]; exact if_pos hm
    · rw [g _ (by decide), k8 _ (by decide), e7, upA_n (by decide), e6, upA_s, d0_o hm]; exact if_pos hm
    · rw [g _ (by decide)]; exact h9 m hm
    · rw [up2_s, upd_n (by decide), up2_s, d0_h]; exact upd_s
    · rw [up2_s, d0_liv hm6]; exact upd_s
  have hF : FrC I (up2 (up2 I8 18 7 0) 18 8 ((1 : Int32) <<< (nI (cM K) &&& 31) - 1)) 18 := ((show FrC I I8 18 from fun a ha => by rw [k8 a (by omega)]; exact hf a ha).up (by decide) (by decide)).up (by decide) (by decide)
  show V _ _ _ _ _ _ _ _ [(0, rf G 18), (1, rf G c)] [] _ _ _ _ _
  refine V_aload_n 1 0 rfl _ rfl rfl dX3_begin_0 rfl ?_
  refine V_getR 4 18 3 0 19 (hR 0 (by decide)) flX3_9 rfl rfl rfl (by omega) dX3_begin_1 rfl ?_
  refine V_iconst 5 (0) rfl dX3_begin_4 rfl ?_
  refine V_callS (K' := 0) (S' := 0) 8 2 [rf G 19, .int 0] mkJ7_fill_53178 lkX3_33 rfl (Nat.le_of_ble_eq_true rfl) (Nat.le_of_ble_eq_true rfl) (Nat.le_of_ble_eq_true rfl) (Nat.le_of_ble_eq_true rfl) rfl rfl dX3_begin_5 rfl (c_J7_fillN_19 (by omega) ?_)
  refine Kq_v (k' := 0) (sl' := 0) rfl rfl ?_
  rw [← e1]
  refine V_aload_n 9 0 rfl _ rfl rfl dX3_begin_8 rfl ?_
  refine V_getR 12 18 3 1 20 (hR 1 (by decide)) flX3_15 rfl rfl rfl (by omega) dX3_begin_9 rfl ?_
  refine V_iconst 13 (-1) rfl dX3_begin_12 rfl ?_
  refine V_callS (K' := 0) (S' := 0) 16 2 [rf G 20, .int (-1)] mkJ7_fill_53178 lkX3_33 rfl (Nat.le_of_ble_eq_true rfl) (Nat.le_of_ble_eq_true rfl) (Nat.le_of_ble_eq_true rfl) (Nat.le_of_ble_eq_true rfl) rfl rfl dX3_begin_13 rfl (c_J7_fillN_20 (by omega) ?_)
  refine Kq_v (k' := 0) (sl' := 0) rfl rfl ?_
  rw [← e2]
  refine V_aload_n 17 0 rfl _ rfl rfl dX3_begin_16 rfl ?_
  refine V_getR 20 18 3 2 21 (hR 2 (by decide)) flX3_18 rfl rfl rfl (by omega) dX3_begin_17 rfl ?_
  refine V_iconst 21 (-1) rfl dX3_begin_20 rfl ?_
  refine V_callS (K' := 0) (S' := 0) 24 2 [rf G 21, .int (-1)] mkJ7_fill_53178 lkX3_33 rfl (Nat.le_of_ble_eq_true rfl) (Nat.le_of_ble_eq_true rfl) (Nat.le_of_ble_eq_true rfl) (Nat.le_of_ble_eq_true rfl) rfl rfl dX3_begin_21 rfl (c_J7_fillN_21 (by omega) ?_)
  refine Kq_v (k' := 0) (sl' := 0) rfl rfl ?_
  rw [← e3]
  refine V_aload_n 25 0 rfl _ rfl rfl dX3_begin_24 rfl ?_
  refine V_getR 28 18 3 3 22 (hR 3 (by decide)) flX3_21 rfl rfl rfl (by omega) dX3_begin_25 rfl ?_
  refine V_iconst 29 (0) rfl dX3_begin_28 rfl ?_
  refine V_callS (K' := 0) (S' := 0) 32 2 [rf G 22, .int 0] mkJ7_fill_53178 lkX3_33 rfl (Nat.le_of_ble_eq_true rfl) (Nat.le_of_ble_eq_true rfl) (Nat.le_of_ble_eq_true rfl) (Nat.le_of_ble_eq_true rfl) rfl rfl dX3_begin_29 rfl (c_J7_fillN_22 (by omega) ?_)
  refine Kq_v (k' := 0) (sl' := 0) rfl rfl ?_
  rw [← e4]
  refine V_aload_n 33 0 rfl _ rfl rfl dX3_begin_32 rfl ?_
  refine V_getR 36 18 3 4 23 (hR 4 (by decide)) flX3_24 rfl rfl rfl (by omega) dX3_begin_33 rfl ?_
  refine V_iconst 37 (0) rfl dX3_begin_36 rfl ?_
  refine V_callS (K' := 0) (S' := 0) 40 2 [rf G 23, .int 0] mkJ7_fill_53178 lkX3_33 rfl (Nat.le_of_ble_eq_true rfl) (Nat.le_of_ble_eq_true rfl) (Nat.le_of_ble_eq_true rfl) (Nat.le_of_ble_eq_true rfl) rfl rfl dX3_begin_37 rfl (c_J7_fillN_23 (by omega) ?_)
  refine Kq_v (k' := 0) (sl' := 0) rfl rfl ?_
  rw [← e5]
  refine V_aload_n 41 0 rfl _ rfl rfl dX3_begin_40 rfl ?_
  refine V_getR 44 18 3 5 24 (hR 5 (by decide)) flX3_27 rfl rfl rfl (by omega) dX3_begin_41 rfl ?_
  refine V_iconst 45 (0) rfl dX3_begin_44 rfl ?_
  refine V_callS (K' := 0) (S' := 0) 48 2 [rf G 24, .int 0] mkJ7_fill_53178 lkX3_33 rfl (Nat.le_of_ble_eq_true rfl) (Nat.le_of_ble_eq_true rfl) (Nat.le_of_ble_eq_true rfl) (Nat.le_of_ble_eq_true rfl) rfl rfl dX3_begin_45 rfl (c_J7_fillN_24 (by omega) ?_)
  refine Kq_v (k' := 0) (sl' := 0) rfl rfl ?_
  rw [← e6]
  refine V_aload_n 49 0 rfl _ rfl rfl dX3_begin_48 rfl ?_
  refine V_getR 52 18 3 6 25 (hR 6 (by decide)) flX3_30 rfl rfl rfl (by omega) dX3_begin_49 rfl ?_
  refine V_iconst 53 (0) rfl dX3_begin_52 rfl ?_
  refine V_callS (K' := 0) (S' := 0) 56 2 [rf G 25, .int 0] mkJ7_fill_53178 lkX3_33 rfl (Nat.le_of_ble_eq_true rfl) (Nat.le_of_ble_eq_true rfl) (Nat.le_of_ble_eq_true rfl) (Nat.le_of_ble_eq_true rfl) rfl rfl dX3_begin_53 rfl (c_J7_fillN_25 (by omega) ?_)
  refine Kq_v (k' := 0) (sl' := 0) rfl rfl ?_
  rw [← e7]
  refine V_aload_n 57 1 rfl _ rfl rfl dX3_begin_56 rfl ?_
  refine V_getR 60 c 2 2 (c + 3) hR2 flX3_39 rfl (ly_c hc).1 rfl (by omega) dX3_begin_57 rfl ?_
  refine V_iconst 61 (0) rfl dX3_begin_60 rfl ?_
  refine V_aload_n 62 0 rfl _ rfl rfl dX3_begin_61 rfl ?_
  refine V_getR 65 18 3 6 25 (hR 6 (by decide)) flX3_30 rfl rfl rfl (by omega) dX3_begin_62 rfl ?_
  refine V_iconst 66 (0) rfl dX3_begin_65 rfl ?_
  refine V_aload_n 67 1 rfl _ rfl rfl dX3_begin_66 rfl ?_
  refine V_getI 70 c 2 7 (nI (cG K)) hC7.2.1 flX3_44 rfl (ly_c hc).1 rfl (by omega) dX3_begin_67 rfl ?_
  refine V_copy 73 (c + 3) 25 6 6 lkX3_48 (ly_c hc).2.2.2.1 rfl (by omega) (by omega) (by decide) (by decide) (nI_pos (by omega)) (by rw [zc]; show 0 + cG K ≤ 6; omega) (by rw [zc]; show 0 + cG K ≤ 6; omega) (Nat.le_of_ble_eq_true rfl) dX3_begin_70 rfl ?_
  rw [← e8]
  refine V_aload_n 74 0 rfl _ rfl rfl dX3_begin_73 rfl ?_
  refine V_iconst 75 (0) rfl dX3_begin_74 rfl ?_
  refine V_putI 78 18 3 7 flX3_54 rfl rfl rfl (by omega) rfl dX3_begin_75 rfl ?_
  refine V_aload_n 79 0 rfl _ rfl rfl dX3_begin_78 rfl ?_
  refine V_iconst 80 (1) rfl dX3_begin_79 rfl ?_
  refine V_aload_n 81 1 rfl _ rfl rfl dX3_begin_80 rfl ?_
  refine V_getI 84 c 2 8 (nI (cM K)) (by rw [up2_n _ _ _ (by omega)]; exact hC8.2.2.1) flX3_57 rfl (ly_c hc).1 rfl (by omega) dX3_begin_81 rfl ?_
  refine V_ishl 85 dX3_begin_84 rfl ?_
  refine V_iconst 86 (1) rfl dX3_begin_85 rfl ?_
  refine V_isub 87 dX3_begin_86 rfl ?_
  refine V_putI 90 18 3 8 flX3_60 rfl rfl rfl (by omega) rfl dX3_begin_87 rfl ?_
  refine V_ret_v rfl (Nat.le_of_ble_eq_true rfl) (fun _ => Nat.le_refl _) (Nat.le_of_ble_eq_true rfl) (hq _ hD hF) dX3_begin_90
