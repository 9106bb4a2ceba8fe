/-! ===== a LAW: its text ===== -/
theorem c_X5_readText {G : Gx} {d : Nat} {I : FI} {R : FR} {J : FJ} {Q : Po} (hRK : RK R) {t : Nat → Nat} {z : Nat} (hT : TxC I t z) {l : Nat} (hl : l = 11 ∨ l = 58) (h150 : z ≤ 150) {fp : Int32} (hd : dLw 6 + 40 ≤ d) (hk : ∀ e p' I', lawF t z = .inr e → LawC I' l (fun F => clF (e F)) → FrL I I' l → p' ≤ z → Q (.inl (some (.int 1))) 103 (tp t z I' p' 0 fp) R J) (hb : ∀ k q p' I', lawF t z = .inl (k, q) → 0 < k → k ≤ 3 → q ≤ z → FrL I I' l → p' ≤ z → Q (.inl (some (.int 0))) 103 (tp t z I' p' (nI k) (nI q)) R J) : Cc G mX5_readText d 0 0 [rf G l, rf G 1] 103 (tp t z I (sk t z 0) 0 fp) R J Q := by
  obtain ⟨m, rfl⟩ : ∃ m, d = m + 10 := ⟨d - 10, by omega⟩
  obtain ⟨lyl0, lyl1, lyl2, lyl3, lyl4⟩ := ly_l hl
  have hF0 : FrL I (up2 I l 4 0) l := fun a q => up2_n _ _ _ (by omega)
  have hT0 : TxC (up2 I l 4 0) t z := hT.fr (hF0 1 (by omega)) (hF0 2 (by omega))
  have hB0 : LB (up2 I l 4 0) l 0 := ⟨by rw [up2_s]; exact upd_s, Nat.zero_le _, fun i hi => absurd hi (Nat.not_lt_zero _)⟩
  show V _ _ _ _ _ _ _ _ [(0, rf G l), (1, rf G 1)] [] _ _ _ _ _
  refine V_aload_n 1 0 rfl _ rfl rfl dX5_readText_0 rfl ?_
  refine V_iconst 2 (0) rfl dX5_readText_1 rfl ?_
  refine V_putI 5 l 5 4 flX5_27 rfl (ly_l hl).1 rfl (by omega) rfl dX5_readText_2 rfl ?_
  rw [tp_up (by omega)]
  refine V_aload_n 6 0 rfl _ rfl rfl dX5_readText_5 rfl ?_
  refine V_aload_n 7 1 rfl _ rfl rfl dX5_readText_6 rfl ?_
  refine V_iconst 8 (0) rfl dX5_readText_7 rfl ?_
  refine V_callV (K' := 0) (S' := 0) 11 l 5 2 [rf G 1, .int 0] mkX5_readSum lkX5_35 (by decide) rfl (ly_l hl).1 (by omega) rfl (Nat.le_of_ble_eq_true rfl) (Nat.le_of_ble_eq_true rfl) (Nat.le_of_ble_eq_true rfl) (Nat.le_of_ble_eq_true rfl) rfl rfl dX5_readText_8 rfl (c_X5_all 6 (Nat.le_refl _) _ _ _ _ _ l (sk t z 0) 0 _ (by omega) hRK hl hT0 h150 (sk_z (Nat.zero_le z)).2.1 (Nat.zero_le _) hB0 (fun e2 p2 I2 s2 r2 eq2 lt2 hp2 hr2 hs2 hss2 hLB2 hV2 hE2 hF2 => ?_) (fun k2 q2 p2 I2 v2 s2 eq2 hk2 hk3 hq2 hp2 h42 h52 hF2 => ?_))
  · refine Kq_i (k' := 0) (sl' := 0) rfl rfl ?_
    have hF3 : FrL I I2 l := fun a q => (hF2 a q).trans (hF0 a q)
    have hT2 : TxC I2 t z := hT.fr (hF3 1 (by omega)) (hF3 2 (by omega))
    refine V_pop 12 rfl dX5_readText_11 rfl ?_
    refine V_aload_n 13 1 rfl _ rfl rfl dX5_readText_12 rfl ?_
    refine V_callV (K' := 0) (S' := 0) 16 1 8 0 [] mkX8_isAtEnd lkX5_39 (by decide) rfl rfl (by decide) rfl (Nat.le_of_ble_eq_true rfl) (Nat.le_of_ble_eq_true rfl) (Nat.le_of_ble_eq_true rfl) (Nat.le_of_ble_eq_true rfl) rfl rfl dX5_readText_13 rfl (c_X8_isAtEnd hRK hT2 (fun z13 => ?_) (fun z13 => ?_))
    · refine Kq_i (k' := 0) (sl' := 0) rfl rfl ?_
      refine V_if_ne 24 19 rfl dX5_readText_16 rfl (fun c16 => ?_) (fun c16 => absurd c16 (by decide))
      refine V_aload_n 25 1 rfl _ rfl rfl dX5_readText_24 rfl ?_
      refine V_callV (K' := 0) (S' := 0) 28 1 8 0 [] mkX8_isFaulty lkX5_49 (by decide) rfl rfl (by decide) rfl (Nat.le_of_ble_eq_true rfl) (Nat.le_of_ble_eq_true rfl) (Nat.le_of_ble_eq_true rfl) (Nat.le_of_ble_eq_true rfl) rfl rfl dX5_readText_25 rfl (c_X8_isFaulty (fun _ => ?_) (fun e => absurd rfl e))
      refine Kq_i (k' := 0) (sl' := 0) rfl rfl ?_
      refine V_if_ne 35 31 rfl dX5_readText_28 rfl (fun c28 => absurd c28 (by decide)) (fun c28 => ?_)
      refine V_iconst 32 (1) rfl dX5_readText_31 rfl ?_
      refine V_goto 36 rfl dX5_readText_32 ?_
      refine V_ret_i rfl (by first | rfl | decide) (Nat.le_of_ble_eq_true rfl) (fun h => absurd h (by decide)) (Nat.le_of_ble_eq_true rfl) (hk e2 p2 I2 ((bd_ok eq2).trans (if_pos z13)) ⟨s2, by omega, hLB2.2.1, hLB2.1, hLB2.2.2, fun F => by show clF (e2 F) = _; rw [← hV2 F, hr2, show s2 - 1 = r2 by omega]⟩ hF3 hp2) dX5_readText_36
    · refine Kq_i (k' := 0) (sl' := 0) rfl rfl ?_
      refine V_if_ne 24 19 rfl dX5_readText_16 rfl (fun c16 => absurd c16 (by decide)) (fun c16 => ?_)
      refine V_aload_n 20 1 rfl _ rfl rfl dX5_readText_19 rfl ?_
      refine V_iconst 21 (1) rfl dX5_readText_20 rfl ?_
      refine V_callV (K' := 0) (S' := 0) 24 1 8 1 [.int 1] mkX8_fail lkX5_45 (by decide) rfl rfl (by decide) rfl (Nat.le_of_ble_eq_true rfl) (Nat.le_of_ble_eq_true rfl) (Nat.le_of_ble_eq_true rfl) (Nat.le_of_ble_eq_true rfl) rfl rfl dX5_readText_21 rfl (c_X8_fail (k := 1) hRK hT2 (fun e => absurd rfl e) (fun _ => ?_))
      refine Kq_v (k' := 0) (sl' := 0) rfl rfl ?_
      refine V_aload_n 25 1 rfl _ rfl rfl dX5_readText_24 rfl ?_
      refine V_callV (K' := 0) (S' := 0) 28 1 8 0 [] mkX8_isFaulty lkX5_49 (by decide) rfl rfl (by decide) rfl (Nat.le_of_ble_eq_true rfl) (Nat.le_of_ble_eq_true rfl) (Nat.le_of_ble_eq_true rfl) (Nat.le_of_ble_eq_true rfl) rfl rfl dX5_readText_25 rfl (c_X8_isFaulty (fun e => absurd e (show ¬ (1 : Int32) = 0 by decide)) (fun _ => ?_))
      refine Kq_i (k' := 0) (sl' := 0) rfl rfl ?_
      refine V_if_ne 35 31 rfl dX5_readText_28 rfl (fun c28 => ?_) (fun c28 => absurd c28 (by decide))
      refine V_iconst 36 (0) rfl dX5_readText_35 rfl ?_
      refine V_ret_i rfl (by first | rfl | decide) (Nat.le_of_ble_eq_true rfl) (fun h => absurd h (by decide)) (Nat.le_of_ble_eq_true rfl) (hb 1 p2 p2 I2 ((bd_ok eq2).trans (if_neg (by have := z13; show ¬ z ≤ p2; omega))) (by decide) (by decide) hp2 hF3 hp2) dX5_readText_36
  · refine Kq_i (k' := 0) (sl' := 0) rfl rfl ?_
    have hF3 : FrL I I2 l := fun a q => (hF2 a q).trans (hF0 a q)
    have hT2 : TxC I2 t z := hT.fr (hF3 1 (by omega)) (hF3 2 (by omega))
    have kn2 := kd_ne hk2 hk3
    refine V_pop 12 rfl dX5_readText_11 rfl ?_
    refine V_aload_n 13 1 rfl _ rfl rfl dX5_readText_12 rfl ?_
    refine V_callV (K' := 0) (S' := 0) 16 1 8 0 [] mkX8_isAtEnd lkX5_39 (by decide) rfl rfl (by decide) rfl (Nat.le_of_ble_eq_true rfl) (Nat.le_of_ble_eq_true rfl) (Nat.le_of_ble_eq_true rfl) (Nat.le_of_ble_eq_true rfl) rfl rfl dX5_readText_13 rfl (c_X8_isAtEnd hRK hT2 (fun z13 => ?_) (fun z13 => ?_))
    · refine Kq_i (k' := 0) (sl' := 0) rfl rfl ?_
      refine V_if_ne 24 19 rfl dX5_readText_16 rfl (fun c16 => ?_) (fun c16 => absurd c16 (by decide))
      refine V_aload_n 25 1 rfl _ rfl rfl dX5_readText_24 rfl ?_
      refine V_callV (K' := 0) (S' := 0) 28 1 8 0 [] mkX8_isFaulty lkX5_49 (by decide) rfl rfl (by decide) rfl (Nat.le_of_ble_eq_true rfl) (Nat.le_of_ble_eq_true rfl) (Nat.le_of_ble_eq_true rfl) (Nat.le_of_ble_eq_true rfl) rfl rfl dX5_readText_25 rfl (c_X8_isFaulty (fun e => absurd e kn2) (fun _ => ?_))
      refine Kq_i (k' := 0) (sl' := 0) rfl rfl ?_
      refine V_if_ne 35 31 rfl dX5_readText_28 rfl (fun c28 => ?_) (fun c28 => absurd c28 (by decide))
      refine V_iconst 36 (0) rfl dX5_readText_35 rfl ?_
      refine V_ret_i rfl (by first | rfl | decide) (Nat.le_of_ble_eq_true rfl) (fun h => absurd h (by decide)) (Nat.le_of_ble_eq_true rfl) (hb _ _ _ _ (bd_no eq2) hk2 hk3 hq2 hF3 hp2) dX5_readText_36
    · refine Kq_i (k' := 0) (sl' := 0) rfl rfl ?_
      refine V_if_ne 24 19 rfl dX5_readText_16 rfl (fun c16 => absurd c16 (by decide)) (fun c16 => ?_)
      refine V_aload_n 20 1 rfl _ rfl rfl dX5_readText_19 rfl ?_
      refine V_iconst 21 (1) rfl dX5_readText_20 rfl ?_
      refine V_callV (K' := 0) (S' := 0) 24 1 8 1 [.int 1] mkX8_fail lkX5_45 (by decide) rfl rfl (by decide) rfl (Nat.le_of_ble_eq_true rfl) (Nat.le_of_ble_eq_true rfl) (Nat.le_of_ble_eq_true rfl) (Nat.le_of_ble_eq_true rfl) rfl rfl dX5_readText_21 rfl (c_X8_fail (k := 1) hRK hT2 (fun _ => ?_) (fun e => absurd e kn2))
      refine Kq_v (k' := 0) (sl' := 0) rfl rfl ?_
      refine V_aload_n 25 1 rfl _ rfl rfl dX5_readText_24 rfl ?_
      refine V_callV (K' := 0) (S' := 0) 28 1 8 0 [] mkX8_isFaulty lkX5_49 (by decide) rfl rfl (by decide) rfl (Nat.le_of_ble_eq_true rfl) (Nat.le_of_ble_eq_true rfl) (Nat.le_of_ble_eq_true rfl) (Nat.le_of_ble_eq_true rfl) rfl rfl dX5_readText_25 rfl (c_X8_isFaulty (fun e => absurd e kn2) (fun _ => ?_))
      refine Kq_i (k' := 0) (sl' := 0) rfl rfl ?_
      refine V_if_ne 35 31 rfl dX5_readText_28 rfl (fun c28 => ?_) (fun c28 => absurd c28 (by decide))
      refine V_iconst 36 (0) rfl dX5_readText_35 rfl ?_
      refine V_ret_i rfl (by first | rfl | decide) (Nat.le_of_ble_eq_true rfl) (fun h => absurd h (by decide)) (Nat.le_of_ble_eq_true rfl) (hb _ _ _ _ (bd_no eq2) hk2 hk3 hq2 hF3 hp2) dX5_readText_36
