/-! ===== WORK: its text, its STEPS ===== -/
theorem c_X9_readText {G : Gx} {d : Nat} {I : FI} {R : FR} {J : FJ} {Q : Po} (hRK : RK R) {t : Nat → Nat} {z : Nat} (hT : TxC I t z) {c : Nat} (hc : c = 4 ∨ c = 51) (h150 : z ≤ 150) {K : CO} (hC : CoastC I c K) (hW : WK K) {fp : Int32} (hd : dWk 6 + 20 ≤ d) (hk : ∀ n S p' I', wkF t z K = .inr ((n, S), p') → I' 34 4 = nI n → StR I' 0 n S → FrW I I' → p' ≤ z → Q (.inl (some (.int 1))) 103 (tp t z I' p' 0 fp) R J) (hb : ∀ k q p' I', wkF t z K = .inl (k, q) → 0 < k → k ≤ 3 → q ≤ z → FrW I I' → p' ≤ z → Q (.inl (some (.int 0))) 103 (tp t z I' p' (nI k) (nI q)) R J) : Cc G mX9_readText d 0 0 [rf G 34, rf G 1, rf G c] 103 (tp t z I (sk t z 0) 0 fp) R J Q := by
  obtain ⟨m, rfl⟩ : ∃ m, d = m + 10 := ⟨d - 10, by omega⟩
  have hF0 : FrW I (up2 I 34 4 0) := fun a q => up2_n _ _ _ (by omega)
  show V _ _ _ _ _ _ _ _ [(0, rf G 34), (1, rf G 1), (2, rf G c)] [] _ _ _ _ _
  refine V_aload_n 1 0 rfl _ rfl rfl dX9_readText_0 rfl ?_
  refine V_iconst 2 (0) rfl dX9_readText_1 rfl ?_
  refine V_putI 5 34 9 4 flX9_24 rfl rfl rfl (by decide) rfl dX9_readText_2 rfl ?_
  rw [tp_up (by omega)]
  refine V_aload_n 6 0 rfl _ rfl rfl dX9_readText_5 rfl ?_
  refine V_aload_n 7 1 rfl _ rfl rfl dX9_readText_6 rfl ?_
  refine V_aload_n 8 2 rfl _ rfl rfl dX9_readText_7 rfl ?_
  refine V_iconst 9 (0) rfl dX9_readText_8 rfl ?_
  refine V_callV (K' := 0) (S' := 0) 12 34 9 3 [rf G 1, rf G c, .int 0] mkX9_readSteps lkX9_28 (by decide) rfl rfl (by decide) rfl (Nat.le_of_ble_eq_true rfl) (Nat.le_of_ble_eq_true rfl) (Nat.le_of_ble_eq_true rfl) (Nat.le_of_ble_eq_true rfl) rfl rfl dX9_readText_9 rfl (c_X9_steps _ _ _ _ _ c (sk t z 0) 0 S0 _ (by omega) hRK hc (hF0.T hT) h150 (hC.fr (fun a q1 q2 => up2_n _ _ _ (by omega))) hW (sk_z (Nat.zero_le z)).2.1 (Nat.zero_le _) (by rw [up2_s]; exact upd_s) (fun n2 S2 p2 I2 e2 h42 hR2 hE2 hF2 hp2 => ?_) (fun k2 q2 p2 I2 e2 hk2 hk3 hq2 hF2 hp2 => ?_))
  · refine Kq_v (k' := 0) (sl' := 0) rfl rfl ?_
    have hT2 := hF2.T (hF0.T hT)
    refine V_aload_n 13 1 rfl _ rfl rfl dX9_readText_12 rfl ?_
    refine V_callV (K' := 0) (S' := 0) 16 1 8 0 [] mkX8_isFaulty lkX9_32 (by decide) rfl rfl (by decide) rfl (Nat.le_of_ble_eq_true rfl) (Nat.le_of_ble_eq_true rfl) (Nat.le_of_ble_eq_true rfl) (Nat.le_of_ble_eq_true rfl) rfl rfl dX9_readText_13 rfl (c_X8_isFaulty (fun _ => ?_) (fun e => absurd rfl e))
    refine Kq_i (k' := 0) (sl' := 0) rfl rfl ?_
    refine V_if_ne 23 19 rfl dX9_readText_16 rfl (fun c16 => absurd c16 (by decide)) (fun c16 => ?_)
    refine V_iconst 20 (1) rfl dX9_readText_19 rfl ?_
    refine V_goto 24 rfl dX9_readText_20 ?_
    refine V_ret_i rfl (by first | rfl | decide) (Nat.le_of_ble_eq_true rfl) (fun h => absurd h (by decide)) (Nat.le_of_ble_eq_true rfl) (hk _ _ _ _ e2 h42 hR2 (hF0.tr hF2) hp2) dX9_readText_24
  · refine Kq_v (k' := 0) (sl' := 0) rfl rfl ?_
    have hT2 := hF2.T (hF0.T hT)
    have kn2 := kd_ne hk2 hk3
    refine V_aload_n 13 1 rfl _ rfl rfl dX9_readText_12 rfl ?_
    refine V_callV (K' := 0) (S' := 0) 16 1 8 0 [] mkX8_isFaulty lkX9_32 (by decide) rfl rfl (by decide) rfl (Nat.le_of_ble_eq_true rfl) (Nat.le_of_ble_eq_true rfl) (Nat.le_of_ble_eq_true rfl) (Nat.le_of_ble_eq_true rfl) rfl rfl dX9_readText_13 rfl (c_X8_isFaulty (fun e => absurd e kn2) (fun _ => ?_))
    refine Kq_i (k' := 0) (sl' := 0) rfl rfl ?_
    refine V_if_ne 23 19 rfl dX9_readText_16 rfl (fun c16 => ?_) (fun c16 => absurd c16 (by decide))
    refine V_iconst 24 (0) rfl dX9_readText_23 rfl ?_
    refine V_ret_i rfl (by first | rfl | decide) (Nat.le_of_ble_eq_true rfl) (fun h => absurd h (by decide)) (Nat.le_of_ble_eq_true rfl) (hb _ _ _ _ e2 hk2 hk3 hq2 (hF0.tr hF2) hp2) dX9_readText_24
theorem c_X9_begin {G : Gx} {d : Nat} {I : FI} {R : FR} {J : FJ} {Q : Po} {c l : Nat} {K : CO} {f : DV → Int32} {N : Nat} {S : SR} {D : DV} (hX : CE I R c l K f N S D) (hDI : DI K D) (hLX : LX D) (hCh : Ch K S 6 0 N) (h4 : I 34 4 = nI N) (hq : ∀ I', DayC I' 18 (exL K f S 6 0 N (D, 0, 0, 0)).1 → I' 34 6 = nI (exL K f S 6 0 N (D, 0, 0, 0)).2.2.1 → I' 34 7 = nI (exL K f S 6 0 N (D, 0, 0, 0)).2.2.2 → FrE I I' l → Q (.inl none) 103 I' R J) : Cc G mX9_begin (d + 200) 0 0 [rf G 34, rf G 18, rf G 3] 103 I R J Q := by
  have hRK := hX.1
  obtain ⟨I1, eI1⟩ : ∃ I1, I1 = up2 (up2 (up2 I 34 5 0) 34 6 0) 34 7 0 := ⟨_, rfl⟩
  have hF1 : FrE I I1 l := by rw [eI1]; exact ((FrE.rf.u).u).u
  have hD1 : DayC I1 18 D := by rw [eI1]; exact DayC34 (DayC34 (DayC34 hX.2.2.2.2.2.2.2.2.2.2.2.2))
  have hX1 := hX.fr hF1 hD1
  have g4 : I1 34 4 = nI N := by rw [eI1, up34 (by decide), up34 (by decide), up34 (by decide)]; exact h4
  have g5 : I1 34 5 = nI 0 := by rw [eI1, up34 (by decide), up34 (by decide), up2_s]; exact upd_s
  have g6 : I1 34 6 = nI 0 := by rw [eI1, up34 (by decide), up2_s]; exact upd_s
  have g7 : I1 34 7 = nI 0 := by rw [eI1, up2_s]; exact upd_s
  show V _ _ _ _ _ _ _ _ [(0, rf G 34), (1, rf G 18), (2, rf G 3)] [] _ _ _ _ _
  refine V_aload_n 1 0 rfl _ rfl rfl dX9_begin_0 rfl ?_
  refine V_iconst 2 (0) rfl dX9_begin_1 rfl ?_
  refine V_putI 5 34 9 5 flX9_101 rfl rfl rfl (by decide) rfl dX9_begin_2 rfl ?_
  refine V_aload_n 6 0 rfl _ rfl rfl dX9_begin_5 rfl ?_
  refine V_iconst 7 (0) rfl dX9_begin_6 rfl ?_
  refine V_putI 10 34 9 6 flX9_104 rfl rfl rfl (by decide) rfl dX9_begin_7 rfl ?_
  refine V_aload_n 11 0 rfl _ rfl rfl dX9_begin_10 rfl ?_
  refine V_iconst 12 (0) rfl dX9_begin_11 rfl ?_
  refine V_putI 15 34 9 7 flX9_107 rfl rfl rfl (by decide) rfl dX9_begin_12 rfl ?_
  rw [← eI1]
  refine V_aload_n 16 0 rfl _ rfl rfl dX9_begin_15 rfl ?_
  refine V_aload_n 17 1 rfl _ rfl rfl dX9_begin_16 rfl ?_
  refine V_aload_n 18 2 rfl _ rfl rfl dX9_begin_17 rfl ?_
  refine V_iconst 19 (0) rfl dX9_begin_18 rfl ?_
  refine V_aload_n 20 0 rfl _ rfl rfl dX9_begin_19 rfl ?_
  refine V_getI 23 34 9 4 (nI N) g4 flX9_24 rfl rfl rfl (by decide) dX9_begin_20 rfl ?_
  refine V_iconst 24 (0) rfl dX9_begin_23 rfl ?_
  refine V_callV (K' := 0) (S' := 0) 27 34 9 5 [rf G 18, rf G 3, .int 0, .int (nI N), .int 0] mkX9_doSteps lkX9_110 (by decide) rfl rfl (by decide) rfl (Nat.le_of_ble_eq_true rfl) (Nat.le_of_ble_eq_true rfl) (Nat.le_of_ble_eq_true rfl) (Nat.le_of_ble_eq_true rfl) rfl rfl dX9_begin_24 rfl (c_X9_run 6 (Nat.le_refl _) _ _ _ _ _ c l N 0 N (D, 0, 0, 0) (by omega) hX1 ⟨hDI, hLX, Nat.zero_le _, Nat.zero_le _⟩ hCh (Nat.zero_le _) (Nat.le_refl _) g5 g6 g7 (fun I2 hD2 h52 h62 h72 hF2 => ?_))
  refine Kq_v (k' := 0) (sl' := 0) rfl rfl ?_
  refine V_ret_v rfl (Nat.le_of_ble_eq_true rfl) (fun h => absurd h (by decide)) (Nat.le_of_ble_eq_true rfl) (hq I2 hD2 h62 h72 (hF1.tr hF2)) dX9_begin_27
