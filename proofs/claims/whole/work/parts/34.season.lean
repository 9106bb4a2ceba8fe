/-! ===== SEASONS of the class ===== -/
theorem c_X3_wear_26_A {G : Gx} {d : Nat} {I : FI} {R : FR} {J : FJ} {Q : Po} (hRK : RK R) {D : DV} {m h : Nat} (hD : DayC I 26 D) (hF : Flg D) (hm : m < 6) (hq : ∀ v I', DayC I' 26 (weD D m h) → FrC I I' 26 → Q (.inl (some (.int v))) 103 I' R J) : Cc G mX3_wear (d + 1) 0 0 [rf G 26, .int (nI m), .int (nI h)] 103 I R J Q :=
  c_X3_wear_26 hRK hD hF hm (fun e => hq 0 I (by rw [weD, if_neg e]; exact hD) FrC.rf) (fun e1 e2 I' h1 h2 => hq 1 I' (by rw [weD, if_pos ⟨e1, e2⟩]; exact h1) h2)
theorem c_X3_sail_26_A {G : Gx} {d : Nat} {I : FI} {R : FR} {J : FJ} {Q : Po} (hRK : RK R) {D : DV} {m g : Nat} (hD : DayC I 26 D) (hF : Flg D) (hm : m < 6) (hq : ∀ v I', DayC I' 26 (saD D m g) → FrC I I' 26 → Q (.inl (some (.int v))) 103 I' R J) : Cc G mX3_sail (d + 1) 0 0 [rf G 26, .int (nI m), .int (nI g)] 103 I R J Q :=
  c_X3_sail_26 hRK hD hF hm (fun e => hq 0 I (by rw [saD, if_neg e]; exact hD) FrC.rf) (fun e1 e2 e3 I' h1 h2 => hq 1 I' (by rw [saD, if_pos ⟨e1, e2, e3⟩]; exact h1) h2)
theorem c_X6_draw {G : Gx} {d : Nat} {I : FI} {R : FR} {J : FJ} {Q : Po} {sd : Int32} {n : Nat} (h0 : 0 < n) (hn : n < 2 ^ 31) (hsd : I 50 0 = sd) (hq : ∀ I', (∀ a, a ≠ 50 → I' a = I a) → I' 50 0 = drw sd → Q (.inl (some (.int (nI (drv sd n))))) 103 I' R J) : Cc G mX6_draw d 0 0 [rf G 50, .int (nI n)] 103 I R J Q := by
  show V _ _ _ _ _ _ _ _ [(0, rf G 50), (1, .int (nI n))] [] _ _ _ _ _
  refine V_aload_n 1 0 rfl _ rfl rfl dX6_draw_0 rfl ?_
  refine V_aload_n 2 0 rfl _ rfl rfl dX6_draw_1 rfl ?_
  refine V_getI 5 50 6 0 sd hsd flX6_7 rfl rfl rfl (by decide) dX6_draw_2 rfl ?_
  refine V_ldc 7 (1103515245) rfl ckX6_13 dX6_draw_5 rfl ?_
  refine V_imul 8 dX6_draw_7 rfl ?_
  refine V_sipush 11 (12345) rfl dX6_draw_8 rfl ?_
  refine V_iadd 12 dX6_draw_11 rfl ?_
  refine V_rw (show _ = drw sd from rfl) ?_
  refine V_putI 15 50 6 0 flX6_7 rfl rfl rfl (by decide) rfl dX6_draw_12 rfl ?_
  refine V_iload_n 16 1 rfl rfl dX6_draw_15 rfl ?_
  refine V_if_le 35 19 rfl dX6_draw_16 rfl (fun c16 => absurd c16 (nI_nle h0 hn)) (fun c16 => ?_)
  refine V_aload_n 20 0 rfl _ rfl rfl dX6_draw_19 rfl ?_
  refine V_getI 23 50 6 0 (drw sd) rfl flX6_7 rfl rfl rfl (by decide) dX6_draw_20 rfl ?_
  refine V_bipush 25 (16) rfl dX6_draw_23 rfl ?_
  refine V_iushr 26 dX6_draw_25 rfl ?_
  refine V_sipush 29 (32767) rfl dX6_draw_26 rfl ?_
  refine V_iand 30 dX6_draw_29 rfl ?_
  refine V_rw (sh_u (drw sd)) ?_
  refine V_iload_n 31 1 rfl rfl dX6_draw_30 rfl ?_
  refine V_irem 32 (nI_ne0 h0 hn) dX6_draw_31 rfl ?_
  refine V_rw (dr_rem sd h0 hn) ?_
  refine V_goto 36 rfl dX6_draw_32 ?_
  refine V_ret_i rfl rfl (Nat.le_of_ble_eq_true rfl) (fun h => absurd h (by decide)) (Nat.le_of_ble_eq_true rfl) (hq _ (fun a ha => up2_n _ _ _ ha) rfl) dX6_draw_36
/-- nothing but the guess and the seed -/
def FrZ (I I' : FI) : Prop := ∀ a, a ≠ 50 → (a < 26 ∨ 33 < a) → I' a = I a
set_option maxHeartbeats 8000000 in
theorem c_X6_drawMan {G : Gx} {d : Nat} {I : FI} {R : FR} {J : FJ} {Q : Po} (hRK : RK R) {c : Nat} (hc : c = 4 ∨ c = 51) {K : CO} {E : DV} {sd q : Int32} (hC : CoastC I c K) (hW : WK K) (hDg : DayC I 26 E) (hE : DI K E) (hsd : I 50 0 = sd) (hd : Drn K) (hq : ∀ I', DayC I' 26 (drD K q E sd) → I' 50 0 = drw (drw (drw (drw sd))) → FrZ I I' → Q (.inl none) 103 I' R J) : Cc G mX6_drawMan (d + 1 + 1) 0 0 [rf G 50, rf G c, rf G 26, .int q] 103 I R J Q := by
  have h6 := hW.2.2.1
  have h8 := hW.1
  have hg6 := hW.2.1
  have hm := drv_lt sd hd.1
  show V _ _ _ _ _ _ _ _ [(0, rf G 50), (1, rf G c), (2, rf G 26), (3, .int q)] [] _ _ _ _ _
  refine V_aload_n 1 0 rfl _ rfl rfl dX6_drawMan_0 rfl ?_
  refine V_aload_n 2 1 rfl _ rfl rfl dX6_drawMan_1 rfl ?_
  refine V_getI 5 c 2 8 (nI (cM K)) hC.2.2.1 flX6_20 rfl (ly_c hc).1 rfl (by omega) dX6_drawMan_2 rfl ?_
  refine V_callV (K' := 0) (S' := 0) 8 50 6 1 [.int (nI (cM K))] mkX6_draw lkX6_39 (by decide) rfl rfl (by decide) rfl (Nat.le_of_ble_eq_true rfl) (Nat.le_of_ble_eq_true rfl) (Nat.le_of_ble_eq_true rfl) (Nat.le_of_ble_eq_true rfl) rfl rfl dX6_drawMan_5 rfl (c_X6_draw (n := cM K) hd.1 (by omega) hsd (fun I1 hx1 hs1 => ?_))
  refine Kq_i (k' := 0) (sl' := 0) rfl rfl ?_
  have hC1 := hC.fr (fun a q1 q2 => hx1 a (by omega))
  refine V_istore 10 [(4, .int (nI (drv sd (cM K)))), (0, rf G 50), (1, rf G c), (2, rf G 26), (3, .int q)] (by decide) rfl dX6_drawMan_8 rfl ?_
  refine V_aload_n 11 1 rfl _ rfl rfl dX6_drawMan_10 rfl ?_
  refine V_aload_n 12 2 rfl _ rfl rfl dX6_drawMan_11 rfl ?_
  refine V_getI 15 c 2 6 (nI (cH K)) hC1.1 flX6_25 rfl (ly_c hc).1 rfl (by omega) dX6_drawMan_12 rfl ?_
  refine V_callV (K' := 0) (S' := 0) 18 50 6 1 [.int (nI (cH K))] mkX6_draw lkX6_39 (by decide) rfl rfl (by decide) rfl (Nat.le_of_ble_eq_true rfl) (Nat.le_of_ble_eq_true rfl) (Nat.le_of_ble_eq_true rfl) (Nat.le_of_ble_eq_true rfl) rfl rfl dX6_drawMan_15 rfl (c_X6_draw (n := cH K) hd.2.1 (by omega) hs1 (fun I2 hx2 hs2 => ?_))
  refine Kq_i (k' := 0) (sl' := 0) rfl rfl ?_
  have hC2 := hC1.fr (fun a q1 q2 => hx2 a (by omega))
  refine V_istore 20 [(5, .int (nI (drv (drw sd) (cH K)))), (4, .int (nI (drv sd (cM K)))), (0, rf G 50), (1, rf G c), (2, rf G 26), (3, .int q)] (by decide) rfl dX6_drawMan_18 rfl ?_
  refine V_aload_n 21 2 rfl _ rfl rfl dX6_drawMan_20 rfl ?_
  refine V_aload_n 22 3 rfl _ rfl rfl dX6_drawMan_21 rfl ?_
  refine V_getI 25 c 2 7 (nI (cG K)) hC2.2.1 flX6_28 rfl (ly_c hc).1 rfl (by omega) dX6_drawMan_22 rfl ?_
  refine V_callV (K' := 0) (S' := 0) 28 50 6 1 [.int (nI (cG K))] mkX6_draw lkX6_39 (by decide) rfl rfl (by decide) rfl (Nat.le_of_ble_eq_true rfl) (Nat.le_of_ble_eq_true rfl) (Nat.le_of_ble_eq_true rfl) (Nat.le_of_ble_eq_true rfl) rfl rfl dX6_drawMan_25 rfl (c_X6_draw (n := cG K) hd.2.2 (by omega) hs2 (fun I3 hx3 hs3 => ?_))
  refine Kq_i (k' := 0) (sl' := 0) rfl rfl ?_
  refine V_istore 30 [(6, .int (nI (drv (drw (drw sd)) (cG K)))), (5, .int (nI (drv (drw sd) (cH K)))), (4, .int (nI (drv sd (cM K)))), (0, rf G 50), (1, rf G c), (2, rf G 26), (3, .int q)] (by decide) rfl dX6_drawMan_28 rfl ?_
  refine V_aload_n 31 5 rfl _ rfl rfl dX6_drawMan_30 rfl ?_
  refine V_iload 33 2 rfl dX6_drawMan_31 rfl ?_
  refine V_iload 35 1 rfl dX6_drawMan_33 rfl ?_
  have hD3 := hDg.fr (fun a q1 q2 => (hx3 a (by omega)).trans ((hx2 a (by omega)).trans (hx1 a (by omega))))
  refine V_callV (K' := 0) (S' := 0) 38 26 3 2 [.int (nI (drv sd (cM K))), .int (nI (drv (drw sd) (cH K)))] mkX3_wear lkX6_43 (by decide) rfl rfl (by decide) rfl (Nat.le_of_ble_eq_true rfl) (Nat.le_of_ble_eq_true rfl) (Nat.le_of_ble_eq_true rfl) (Nat.le_of_ble_eq_true rfl) rfl rfl dX6_drawMan_35 rfl (c_X3_wear_26_A hRK hD3 hE.1.1 (by omega) (fun v4 I4 hD4 hx4 => ?_))
  refine Kq_i (k' := 0) (sl' := 0) rfl rfl ?_
  have hE4 := DI_we (m := drv sd (cM K)) h6 hE (by omega) (drv_lt (drw sd) hd.2.1)
  refine V_pop 39 rfl dX6_drawMan_38 rfl ?_
  refine V_aload_n 40 5 rfl _ rfl rfl dX6_drawMan_39 rfl ?_
  refine V_iload 42 2 rfl dX6_drawMan_40 rfl ?_
  refine V_iload 44 0 rfl dX6_drawMan_42 rfl ?_
  refine V_callV (K' := 0) (S' := 0) 47 26 3 2 [.int (nI (drv sd (cM K))), .int (nI (drv (drw (drw sd)) (cG K)))] mkX3_sail lkX6_49 (by decide) rfl rfl (by decide) rfl (Nat.le_of_ble_eq_true rfl) (Nat.le_of_ble_eq_true rfl) (Nat.le_of_ble_eq_true rfl) (Nat.le_of_ble_eq_true rfl) rfl rfl dX6_drawMan_44 rfl (c_X3_sail_26_A hRK hD4 hE4.1.1 (by omega) (fun v5 I5 hD5 hx5 => ?_))
  refine Kq_i (k' := 0) (sl' := 0) rfl rfl ?_
  have hs5 : I5 50 0 = drw (drw (drw sd)) := by rw [hx5 50 (by decide), hx4 50 (by decide)]; exact hs3
  refine V_pop 48 rfl dX6_drawMan_47 rfl ?_
  refine V_aload_n 49 3 rfl _ rfl rfl dX6_drawMan_48 rfl ?_
  refine V_bipush 51 (16) rfl dX6_drawMan_49 rfl ?_
  refine V_callV (K' := 0) (S' := 0) 54 50 6 1 [.int 16] mkX6_draw lkX6_39 (by decide) rfl rfl (by decide) rfl (Nat.le_of_ble_eq_true rfl) (Nat.le_of_ble_eq_true rfl) (Nat.le_of_ble_eq_true rfl) (Nat.le_of_ble_eq_true rfl) rfl rfl dX6_drawMan_51 rfl (c_X6_draw (n := 16) (by decide) (by decide) hs5 (fun I6 hx6 hs6 => ?_))
  refine Kq_i (k' := 0) (sl' := 0) rfl rfl ?_
  have hD6 := hD5.fr (fun a q1 q2 => hx6 a (by omega))
  have hZ6 : FrZ I I6 := fun a q1 q2 => (hx6 a q1).trans ((hx5 a q2).trans ((hx4 a q2).trans ((hx3 a q1).trans ((hx2 a q1).trans (hx1 a q1)))))
  refine V_iload_n 55 6 rfl rfl dX6_drawMan_54 rfl ?_
  refine V_icmp_ge 65 58 rfl dX6_drawMan_55 rfl (fun c55 => ?_) (fun c55 => ?_)
  · refine V_ret_v rfl (Nat.le_of_ble_eq_true rfl) (fun h => absurd h (by decide)) (Nat.le_of_ble_eq_true rfl) (hq I6 (by rw [drD, if_neg (Int32.not_lt.mpr c55)]; exact hD6) hs6 hZ6) dX6_drawMan_65
  · refine V_aload_n 59 5 rfl _ rfl rfl dX6_drawMan_58 rfl ?_
    refine V_iload 61 2 rfl dX6_drawMan_59 rfl ?_
    refine V_callV (K' := 0) (S' := 0) 64 26 3 1 [.int (nI (drv sd (cM K)))] mkX3_goHome lkX6_52 (by decide) rfl rfl (by decide) rfl (Nat.le_of_ble_eq_true rfl) (Nat.le_of_ble_eq_true rfl) (Nat.le_of_ble_eq_true rfl) (Nat.le_of_ble_eq_true rfl) rfl rfl dX6_drawMan_61 rfl (c_X3_goHome_26_A hRK hD6 (by omega) (fun v7 I7 hD7 hx7 => ?_))
    refine Kq_i (k' := 0) (sl' := 0) rfl rfl ?_
    refine V_pop 65 rfl dX6_drawMan_64 rfl ?_
    refine V_ret_v rfl (Nat.le_of_ble_eq_true rfl) (fun h => absurd h (by decide)) (Nat.le_of_ble_eq_true rfl) (hq I7 (by rw [drD, if_pos (Int32.not_le.mp c55)]; exact hD7) ((congrFun (hx7 50 (by decide)) 0).trans hs6) (fun a q1 q2 => (hx7 a q2).trans (hZ6 a q1 q2))) dX6_drawMan_65
set_option maxHeartbeats 8000000 in
theorem c_X6_pass {G : Gx} {d : Nat} {I : FI} {R : FR} {J : FJ} {Q : Po} {c l b : Nat} {K : CO} {f : DV → Int32} {D E : DV} (hX : RC I R c l b K f D) (hDg : DayC I 26 E) (hE : DI K E) {sd q : Int32} {hr : Nat} (hhr : hr ≤ 96) (hq : ∀ I', DayC I' 26 (seS K f q E sd hr).1 → FrQ I I' → Q (.inl none) 103 I' R J) : Cc G mX6_pass (d + 10) 0 0 [rf G 50, rf G 3, rf G 26, .int sd, .int q, .int (nI hr)] 103 I R J Q := by
  obtain ⟨hRS, hc, hl, hb, hC, hW, hD, hI, hL⟩ := hX
  have hRK := hRS.K
  have hR3c : R 3 0 = some c := hRS 3 0 (by decide)
  have hR3l : R 3 1 = some l := hRS 3 1 (by decide)
  have hR32 : R 3 2 = some 16 := hRS 3 2 (by decide)
  have hR33 : R 3 3 = some 17 := hRS 3 3 (by decide)
  have h8 := hW.1
  have hg6 := hW.2.1
  have h6 := hW.2.2.1
  have hWD := hI.1
  have hFl := hI.1.1
  have L1 : Drn K → ∀ i, i ≤ hr → ∀ I1, DayC I1 26 (seS K f q E sd i).1 → I1 50 0 = (seS K f q E sd i).2 → FrQ I I1 → V G mX6_pass (d + 10) 0 0 0 0 45 [(8, .int (nI i)), (7, .int 1), (0, rf G 50), (1, rf G 3), (2, rf G 26), (4, .int q), (5, .int (nI hr)), (6, rf G c)] [] 103 I1 R J Q := by
    intro hd
    refine loopd hr (fun I1 hD1 hs1 hz1 => ?_) (fun i hi ih I1 hD1 hs1 hz1 => ?_)
    · refine V_iload 47 0 rfl dX6_pass_45 rfl ?_
      refine V_iload 49 6 rfl dX6_pass_47 rfl ?_
      refine V_icmp_ge 77 52 rfl dX6_pass_49 rfl (fun c49 => ?_) (fun c49 => absurd (Int32.le_refl _) c49)
      refine V_ret_v rfl (Nat.le_of_ble_eq_true rfl) (fun h => absurd h (by decide)) (Nat.le_of_ble_eq_true rfl) (hq I1 hD1 hz1) dX6_pass_77
    · obtain ⟨-, -, -, -, hC1, -, -, -, hL1⟩ := RC.fr ⟨hRS, hc, hl, hb, hC, hW, hD, hI, hL⟩ hz1
      have hE1 := DI_se (q := q) (sd := sd) hW hL.R hE i
      refine V_iload 47 0 rfl dX6_pass_45 rfl ?_
      refine V_iload 49 6 rfl dX6_pass_47 rfl ?_
      refine V_icmp_ge 77 52 rfl dX6_pass_49 rfl (fun c49 => absurd c49 (nI_ge hi (by omega))) (fun c49 => ?_)
      refine V_iload 54 1 rfl dX6_pass_52 rfl ?_
      refine V_if_eq 66 57 rfl dX6_pass_54 rfl (fun c54 => absurd c54 (by decide)) (fun c54 => ?_)
      refine V_aload_n 58 2 rfl _ rfl rfl dX6_pass_57 rfl ?_
      refine V_aload 60 7 rfl _ rfl dX6_pass_58 rfl ?_
      refine V_aload_n 61 4 rfl _ rfl rfl dX6_pass_60 rfl ?_
      refine V_iload 63 5 rfl dX6_pass_61 rfl ?_
      refine V_callV (K' := 0) (S' := 0) 66 50 6 3 [rf G c, rf G 26, .int q] mkX6_drawMan lkX6_31 (by decide) rfl rfl (by decide) rfl (Nat.le_of_ble_eq_true rfl) (Nat.le_of_ble_eq_true rfl) (Nat.le_of_ble_eq_true rfl) (Nat.le_of_ble_eq_true rfl) rfl rfl dX6_pass_63 rfl (c_X6_drawMan hRK hc hC1 hW hD1 hE1 hs1 hd (fun I2 hD2 hs2 hz2 => ?_))
      refine Kq_v (k' := 0) (sl' := 0) rfl rfl ?_
      have hC2 := hC1.fr (fun a q1 q2 => hz2 a (by omega) (by omega))
      have hL2 := hL1.fr (fun a q1 q2 => hz2 a (by omega) (by omega))
      have hE2 := DI_dr (q := q) (sd := (seS K f q E sd i).2) hW hd.1 hd.2.1 hd.2.2 hE1
      refine V_aload_n 67 3 rfl _ rfl rfl dX6_pass_66 rfl ?_
      refine V_aload_n 68 4 rfl _ rfl rfl dX6_pass_67 rfl ?_
      refine V_callV (K' := 0) (S' := 0) 71 3 7 1 [rf G 26] mkX7_passHour lkX6_35 (by decide) rfl rfl (by decide) rfl (Nat.le_of_ble_eq_true rfl) (Nat.le_of_ble_eq_true rfl) (Nat.le_of_ble_eq_true rfl) (Nat.le_of_ble_eq_true rfl) rfl rfl dX6_pass_68 rfl (c_X7_passHour hRK hR3c hR3l hR32 hR33 hc (Or.inr rfl) hl hC2 hW hD2 hE2.1 hL2 (fun I3 hD3 hz3 => ?_))
      refine Kq_v (k' := 0) (sl' := 0) rfl rfl ?_
      refine V_iinc 74 0 rfl (nI (i + 1)) [(8, .int (nI (i + 1))), (7, .int 1), (0, rf G 50), (1, rf G 3), (2, rf G 26), (4, .int q), (5, .int (nI hr)), (6, rf G c)] (nI_1 _) (by decide) rfl dX6_pass_71 rfl ?_
      refine V_goto 45 rfl dX6_pass_74 ?_
      have e : seS K f q E sd (i + 1) = (passD K f (drD K q (seS K f q E sd i).1 (seS K f q E sd i).2), drw (drw (drw (drw (seS K f q E sd i).2)))) := by rw [seS, if_pos hd]
      rw [e] at ih
      exact V_lv [0, 1, 2, 3, 4, 5, 6, 7] rfl (ih I3 hD3 ((congrFun (hz3 50 (by decide) (by decide) (by omega) (by decide)) 0).trans hs2) (hz1.tr (FrQ.tr (fun a q1 q2 q3 q4 => hz2 a (by omega) (by omega)) (FrQ.P hz3 hl))))
  have L0 : ¬ Drn K → ∀ i, i ≤ hr → ∀ I1, DayC I1 26 (seS K f q E sd i).1 → I1 50 0 = (seS K f q E sd i).2 → FrQ I I1 → V G mX6_pass (d + 10) 0 0 0 0 45 [(8, .int (nI i)), (7, .int 0), (0, rf G 50), (1, rf G 3), (2, rf G 26), (4, .int q), (5, .int (nI hr)), (6, rf G c)] [] 103 I1 R J Q := by
    intro hd
    refine loopd hr (fun I1 hD1 hs1 hz1 => ?_) (fun i hi ih I1 hD1 hs1 hz1 => ?_)
    · refine V_iload 47 0 rfl dX6_pass_45 rfl ?_
      refine V_iload 49 6 rfl dX6_pass_47 rfl ?_
      refine V_icmp_ge 77 52 rfl dX6_pass_49 rfl (fun c49 => ?_) (fun c49 => absurd (Int32.le_refl _) c49)
      refine V_ret_v rfl (Nat.le_of_ble_eq_true rfl) (fun h => absurd h (by decide)) (Nat.le_of_ble_eq_true rfl) (hq I1 hD1 hz1) dX6_pass_77
    · obtain ⟨-, -, -, -, hC1, -, -, -, hL1⟩ := RC.fr ⟨hRS, hc, hl, hb, hC, hW, hD, hI, hL⟩ hz1
      have hE1 := DI_se (q := q) (sd := sd) hW hL.R hE i
      refine V_iload 47 0 rfl dX6_pass_45 rfl ?_
      refine V_iload 49 6 rfl dX6_pass_47 rfl ?_
      refine V_icmp_ge 77 52 rfl dX6_pass_49 rfl (fun c49 => absurd c49 (nI_ge hi (by omega))) (fun c49 => ?_)
      refine V_iload 54 1 rfl dX6_pass_52 rfl ?_
      refine V_if_eq 66 57 rfl dX6_pass_54 rfl (fun c54 => ?_) (fun c54 => absurd c54 (by decide))
      refine V_aload_n 67 3 rfl _ rfl rfl dX6_pass_66 rfl ?_
      refine V_aload_n 68 4 rfl _ rfl rfl dX6_pass_67 rfl ?_
      refine V_callV (K' := 0) (S' := 0) 71 3 7 1 [rf G 26] mkX7_passHour lkX6_35 (by decide) rfl rfl (by decide) rfl (Nat.le_of_ble_eq_true rfl) (Nat.le_of_ble_eq_true rfl) (Nat.le_of_ble_eq_true rfl) (Nat.le_of_ble_eq_true rfl) rfl rfl dX6_pass_68 rfl (c_X7_passHour hRK hR3c hR3l hR32 hR33 hc (Or.inr rfl) hl hC1 hW hD1 hE1.1 hL1 (fun I3 hD3 hz3 => ?_))
      refine Kq_v (k' := 0) (sl' := 0) rfl rfl ?_
      refine V_iinc 74 0 rfl (nI (i + 1)) [(8, .int (nI (i + 1))), (7, .int 0), (0, rf G 50), (1, rf G 3), (2, rf G 26), (4, .int q), (5, .int (nI hr)), (6, rf G c)] (nI_1 _) (by decide) rfl dX6_pass_71 rfl ?_
      refine V_goto 45 rfl dX6_pass_74 ?_
      have e : seS K f q E sd (i + 1) = (passD K f (seS K f q E sd i).1, (seS K f q E sd i).2) := by rw [seS, if_neg hd]
      rw [e] at ih
      exact V_lv [0, 1, 2, 3, 4, 5, 6, 7] rfl (ih I3 hD3 ((congrFun (hz3 50 (by decide) (by decide) (by omega) (by decide)) 0).trans hs1) (hz1.tr (FrQ.P hz3 hl)))
  have hz0 : FrQ I (up2 I 50 0 sd) := FrQ.rf.u (by decide)
  have hD0 : DayC (up2 I 50 0 sd) 26 E := hDg.fr (fun a q1 q2 => up2_n _ _ _ (by omega))
  have hC0 : CoastC (up2 I 50 0 sd) c K := hC.fr (fun a q1 q2 => up2_n _ _ _ (by omega))
  show V _ _ _ _ _ _ _ _ [(0, rf G 50), (1, rf G 3), (2, rf G 26), (3, .int sd), (4, .int q), (5, .int (nI hr))] [] _ _ _ _ _
  by_cases hd : Drn K
  · refine V_aload_n 1 0 rfl _ rfl rfl dX6_pass_0 rfl ?_
    refine V_iload_n 2 3 rfl rfl dX6_pass_1 rfl ?_
    refine V_putI 5 50 6 0 flX6_7 rfl rfl rfl (by decide) rfl dX6_pass_2 rfl ?_
    refine V_aload_n 6 1 rfl _ rfl rfl dX6_pass_5 rfl ?_
    refine V_getR 9 3 7 0 c hR3c flX6_14 rfl rfl rfl (by decide) dX6_pass_6 rfl ?_
    refine V_astore 11 _ rfl [(6, rf G c), (0, rf G 50), (1, rf G 3), (2, rf G 26), (3, .int sd), (4, .int q), (5, .int (nI hr))] (by decide) rfl dX6_pass_9 rfl ?_
    refine V_aload 13 0 rfl _ rfl dX6_pass_11 rfl ?_
    refine V_getI 16 c 2 8 (nI (cM K)) hC0.2.2.1 flX6_20 rfl (ly_c hc).1 rfl (by omega) dX6_pass_13 rfl ?_
    refine V_if_le 39 19 rfl dX6_pass_16 rfl (fun c16 => absurd c16 (nI_nle hd.1 (by omega))) (fun c16 => ?_)
    refine V_aload 21 0 rfl _ rfl dX6_pass_19 rfl ?_
    refine V_getI 24 c 2 6 (nI (cH K)) hC0.1 flX6_25 rfl (ly_c hc).1 rfl (by omega) dX6_pass_21 rfl ?_
    refine V_if_le 39 27 rfl dX6_pass_24 rfl (fun c24 => absurd c24 (nI_nle hd.2.1 (by omega))) (fun c24 => ?_)
    refine V_aload 29 0 rfl _ rfl dX6_pass_27 rfl ?_
    refine V_getI 32 c 2 7 (nI (cG K)) hC0.2.1 flX6_28 rfl (ly_c hc).1 rfl (by omega) dX6_pass_29 rfl ?_
    refine V_if_le 39 35 rfl dX6_pass_32 rfl (fun c32 => absurd c32 (nI_nle hd.2.2 (by omega))) (fun c32 => ?_)
    refine V_iconst 36 (1) rfl dX6_pass_35 rfl ?_
    refine V_goto 40 rfl dX6_pass_36 ?_
    refine V_istore 42 [(7, .int 1), (6, rf G c), (0, rf G 50), (1, rf G 3), (2, rf G 26), (3, .int sd), (4, .int q), (5, .int (nI hr))] (by decide) rfl dX6_pass_40 rfl ?_
    refine V_iconst 43 (0) rfl dX6_pass_42 rfl ?_
    refine V_istore 45 [(8, .int 0), (7, .int 1), (6, rf G c), (0, rf G 50), (1, rf G 3), (2, rf G 26), (3, .int sd), (4, .int q), (5, .int (nI hr))] (by decide) rfl dX6_pass_43 rfl ?_
    exact V_lv [0, 1, 3, 4, 5, 7, 8, 2] rfl (L1 hd 0 (Nat.zero_le _) _ hD0 rfl hz0)
  · refine V_aload_n 1 0 rfl _ rfl rfl dX6_pass_0 rfl ?_
    refine V_iload_n 2 3 rfl rfl dX6_pass_1 rfl ?_
    refine V_putI 5 50 6 0 flX6_7 rfl rfl rfl (by decide) rfl dX6_pass_2 rfl ?_
    refine V_aload_n 6 1 rfl _ rfl rfl dX6_pass_5 rfl ?_
    refine V_getR 9 3 7 0 c hR3c flX6_14 rfl rfl rfl (by decide) dX6_pass_6 rfl ?_
    refine V_astore 11 _ rfl [(6, rf G c), (0, rf G 50), (1, rf G 3), (2, rf G 26), (3, .int sd), (4, .int q), (5, .int (nI hr))] (by decide) rfl dX6_pass_9 rfl ?_
    refine V_aload 13 0 rfl _ rfl dX6_pass_11 rfl ?_
    refine V_getI 16 c 2 8 (nI (cM K)) hC0.2.2.1 flX6_20 rfl (ly_c hc).1 rfl (by omega) dX6_pass_13 rfl ?_
    refine V_if_le 39 19 rfl dX6_pass_16 rfl (fun c16 => ?_) (fun c16 => ?_)
    · refine V_iconst 40 (0) rfl dX6_pass_39 rfl ?_
      refine V_istore 42 [(7, .int 0), (6, rf G c), (0, rf G 50), (1, rf G 3), (2, rf G 26), (3, .int sd), (4, .int q), (5, .int (nI hr))] (by decide) rfl dX6_pass_40 rfl ?_
      refine V_iconst 43 (0) rfl dX6_pass_42 rfl ?_
      refine V_istore 45 [(8, .int 0), (7, .int 0), (6, rf G c), (0, rf G 50), (1, rf G 3), (2, rf G 26), (3, .int sd), (4, .int q), (5, .int (nI hr))] (by decide) rfl dX6_pass_43 rfl ?_
      exact V_lv [0, 1, 3, 4, 5, 7, 8, 2] rfl (L0 hd 0 (Nat.zero_le _) _ hD0 rfl hz0)
    · refine V_aload 21 0 rfl _ rfl dX6_pass_19 rfl ?_
      refine V_getI 24 c 2 6 (nI (cH K)) hC0.1 flX6_25 rfl (ly_c hc).1 rfl (by omega) dX6_pass_21 rfl ?_
      refine V_if_le 39 27 rfl dX6_pass_24 rfl (fun c24 => ?_) (fun c24 => ?_)
      · refine V_iconst 40 (0) rfl dX6_pass_39 rfl ?_
        refine V_istore 42 [(7, .int 0), (6, rf G c), (0, rf G 50), (1, rf G 3), (2, rf G 26), (3, .int sd), (4, .int q), (5, .int (nI hr))] (by decide) rfl dX6_pass_40 rfl ?_
        refine V_iconst 43 (0) rfl dX6_pass_42 rfl ?_
        refine V_istore 45 [(8, .int 0), (7, .int 0), (6, rf G c), (0, rf G 50), (1, rf G 3), (2, rf G 26), (3, .int sd), (4, .int q), (5, .int (nI hr))] (by decide) rfl dX6_pass_43 rfl ?_
        exact V_lv [0, 1, 3, 4, 5, 7, 8, 2] rfl (L0 hd 0 (Nat.zero_le _) _ hD0 rfl hz0)
      · refine V_aload 29 0 rfl _ rfl dX6_pass_27 rfl ?_
        refine V_getI 32 c 2 7 (nI (cG K)) hC0.2.1 flX6_28 rfl (ly_c hc).1 rfl (by omega) dX6_pass_29 rfl ?_
        refine V_if_le 39 35 rfl dX6_pass_32 rfl (fun c32 => ?_) (fun c32 => ?_)
        · refine V_iconst 40 (0) rfl dX6_pass_39 rfl ?_
          refine V_istore 42 [(7, .int 0), (6, rf G c), (0, rf G 50), (1, rf G 3), (2, rf G 26), (3, .int sd), (4, .int q), (5, .int (nI hr))] (by decide) rfl dX6_pass_40 rfl ?_
          refine V_iconst 43 (0) rfl dX6_pass_42 rfl ?_
          refine V_istore 45 [(8, .int 0), (7, .int 0), (6, rf G c), (0, rf G 50), (1, rf G 3), (2, rf G 26), (3, .int sd), (4, .int q), (5, .int (nI hr))] (by decide) rfl dX6_pass_43 rfl ?_
          exact V_lv [0, 1, 3, 4, 5, 7, 8, 2] rfl (L0 hd 0 (Nat.zero_le _) _ hD0 rfl hz0)
        · exact absurd ⟨Nat.pos_of_ne_zero (fun e => c16 (by rw [e]; decide)), Nat.pos_of_ne_zero (fun e => c24 (by rw [e]; decide)), Nat.pos_of_ne_zero (fun e => c32 (by rw [e]; decide))⟩ hd
