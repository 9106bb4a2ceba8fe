/-! ===== the reference: line, meets, row, from, best, two ===== -/
set_option maxHeartbeats 8000000 in
theorem c_X11_line {G : Gx} {d : Nat} {I : FI} {R : FR} {J : FJ} {Q : Po} {K : CO} {f : DV → Int32} {D : DV} (hX : RM I R K f D) {x y : Int32}  (hq : HoM I R J Q 2 (ckN x (cM K) (ckW y 0 1000000 (.inl (oI (itN (cHr K) y.toNatClampNeg x.toNatClampNeg)))))) : Cc G mX11_line (d + 60) 0 0 [rf G 69, .int x, .int y] 103 I R J Q := by
  obtain ⟨I0, hI0⟩ : ∃ I0, I0 = up2 I 69 0 0 := ⟨_, rfl⟩
  have hz := FrM.z hI0
  obtain ⟨hRM, hK, hW, hN, hI, hL, hfR⟩ := hX.fr hz
  have ht : I0 69 0 = 0 := hz.2.1
  have h8 := hW.1
  have hg6 := hW.2.1
  have h6 := hW.2.2.1
  have hWD := hI.1
  have hFl := hI.1.1
  have hB := hI.2.2.1
  have hSt := hI.2.1
  show V _ _ _ _ _ _ _ _ [(0, rf G 69), (1, .int x), (2, .int y)] [] _ _ _ _ _
  refine V_aload_n 1 0 rfl _ rfl rfl dX11_line_0 rfl ?_
  refine V_iconst 2 (0) rfl dX11_line_1 rfl ?_
  refine V_putI 5 69 11 0 flX11_3 rfl rfl rfl (by decide) rfl dX11_line_2 rfl ?_
  rw [← hI0]
  refine V_aload_n 6 0 rfl _ rfl rfl dX11_line_5 rfl ?_
  refine V_iload_n 7 1 rfl rfl dX11_line_6 rfl ?_
  refine V_iconst 8 (1) rfl dX11_line_7 rfl ?_
  refine V_callV (K' := 0) (S' := 0) 11 69 11 2 [.int x, .int 1] mkX11_isMan lkX11_404 (by decide) rfl rfl (by decide) rfl (Nat.le_of_ble_eq_true rfl) (Nat.le_of_ble_eq_true rfl) (Nat.le_of_ble_eq_true rfl) (Nat.le_of_ble_eq_true rfl) rfl rfl dX11_line_8 rfl (c_X11_isMan (c := cM K) (cd := 1) hRM (by omega) hK.2.2.1 (by decide) (by decide) ht (fun i8 => ?_) (fun i8 => ?_))
  · refine Kq_i (k' := 0) (sl' := 0) rfl rfl ?_
    rw [ckN_y (by omega) i8] at hq
    obtain ⟨m, hm, rfl⟩ := i8
    refine V_if_eq 31 14 rfl dX11_line_11 rfl (fun c11 => absurd c11 (by decide)) (fun c11 => ?_)
    refine V_aload_n 15 0 rfl _ rfl rfl dX11_line_14 rfl ?_
    refine V_iload_n 16 2 rfl rfl dX11_line_15 rfl ?_
    refine V_iconst 17 (0) rfl dX11_line_16 rfl ?_
    refine V_ldcw 20 (1000000) rfl ckX11_424 dX11_line_17 rfl ?_
    refine V_callS (K' := 0) (S' := 0) 23 3 [.int y, .int 0, .int 1000000] mkX11_within lkX11_383 rfl (Nat.le_of_ble_eq_true rfl) (Nat.le_of_ble_eq_true rfl) (Nat.le_of_ble_eq_true rfl) (Nat.le_of_ble_eq_true rfl) rfl rfl dX11_line_20 rfl (c_X11_within (fun a20 b20 => ?_) (fun a20 => ?_))
    · refine Kq_i (k' := 0) (sl' := 0) rfl rfl ?_
      rw [ckW_y a20 b20] at hq
      obtain ⟨n, hn, rfl⟩ := in_nI (n := 1000000) (by decide) a20 b20
      refine V_iconst 24 (2) rfl dX11_line_23 rfl ?_
      refine V_iconst 25 (1) rfl dX11_line_24 rfl ?_
      refine V_callV (K' := 0) (S' := 0) 28 69 11 3 [.int 1, .int 2, .int 1] mkX11_may lkX11_216 (by decide) rfl rfl (by decide) rfl (Nat.le_of_ble_eq_true rfl) (Nat.le_of_ble_eq_true rfl) (Nat.le_of_ble_eq_true rfl) (Nat.le_of_ble_eq_true rfl) rfl rfl dX11_line_25 rfl (c_X11_may (cd := 2) (kd := 1) hRM (by decide) (by decide) (by decide) ht (fun _ => ?_) (fun e => absurd e (by decide)))
      refine Kq_i (k' := 0) (sl' := 0) rfl rfl ?_
      refine V_if_ne 33 31 rfl dX11_line_28 rfl (fun c28 => ?_) (fun c28 => absurd c28 (by decide))
      refine V_iload_n 34 1 rfl rfl dX11_line_33 rfl ?_
      refine V_istore_n 35 [(3, .int (nI m)), (0, rf G 69), (1, .int (nI m)), (2, .int (nI n))] (by decide) rfl rfl dX11_line_34 rfl ?_
      refine V_iconst 36 (0) rfl dX11_line_35 rfl ?_
      refine V_istore 38 [(4, .int 0), (3, .int (nI m)), (0, rf G 69), (1, .int (nI m)), (2, .int (nI n))] (by decide) rfl dX11_line_36 rfl ?_
      rw [nI_clamp (show n < 2 ^ 31 by omega), nI_clamp (show m < 2 ^ 31 by omega)] at hq
      have L : ∀ i, i ≤ n → V G mX11_line (d + 60) 0 0 0 0 38 [(4, .int (nI i)), (3, .int (oI (itN (cHr K) i m))), (0, rf G 69), (2, .int (nI n))] [] 103 I0 R J Q := by
        refine loopd n ?_ (fun i hi ih => ?_)
        · refine V_iload 40 0 rfl dX11_line_38 rfl ?_
          refine V_iload_n 41 3 rfl rfl dX11_line_40 rfl ?_
          refine V_icmp_ge 62 44 rfl dX11_line_41 rfl (fun c41 => ?_) (fun c41 => absurd (Int32.le_refl _) c41)
          refine V_iload_n 63 1 rfl rfl dX11_line_62 rfl ?_
          refine V_ret_i rfl rfl (Nat.le_of_ble_eq_true rfl) (fun h => absurd h (by decide)) (Nat.le_of_ble_eq_true rfl) (hq I0 hz) dX11_line_63
        · cases e : itN (cHr K) i m with
          | none =>
            rw [itN_no e _ (Nat.le_of_lt hi)] at hq
            refine V_iload 40 0 rfl dX11_line_38 rfl ?_
            refine V_iload_n 41 3 rfl rfl dX11_line_40 rfl ?_
            refine V_icmp_ge 62 44 rfl dX11_line_41 rfl (fun c41 => absurd c41 (nI_ge hi (by omega))) (fun c41 => ?_)
            refine V_iload_n 45 1 rfl rfl dX11_line_44 rfl ?_
            refine V_iconst 46 (-1) rfl dX11_line_45 rfl ?_
            refine V_icmp_eq 62 49 rfl dX11_line_46 rfl (fun c46 => ?_) (fun c46 => absurd rfl c46)
            refine V_iload_n 63 1 rfl rfl dX11_line_62 rfl ?_
            refine V_ret_i rfl rfl (Nat.le_of_ble_eq_true rfl) (fun h => absurd h (by decide)) (Nat.le_of_ble_eq_true rfl) (hq I0 hz) dX11_line_63
          | some a =>
            have ha := itN_lt hW.2.2.2.1 hm i a e
            rw [itN, e] at ih
            show V G mX11_line (d + 60) 0 0 0 0 38 [(4, .int (nI i)), (3, .int (nI a)), (0, rf G 69), (2, .int (nI n))] [] 103 I0 R J Q
            refine V_iload 40 0 rfl dX11_line_38 rfl ?_
            refine V_iload_n 41 3 rfl rfl dX11_line_40 rfl ?_
            refine V_icmp_ge 62 44 rfl dX11_line_41 rfl (fun c41 => absurd c41 (nI_ge hi (by omega))) (fun c41 => ?_)
            refine V_iload_n 45 1 rfl rfl dX11_line_44 rfl ?_
            refine V_iconst 46 (-1) rfl dX11_line_45 rfl ?_
            refine V_icmp_eq 62 49 rfl dX11_line_46 rfl (fun c46 => absurd c46 (nI_ne (by omega))) (fun c46 => ?_)
            refine V_aload_n 50 2 rfl _ rfl rfl dX11_line_49 rfl ?_
            refine V_getR 53 69 11 17 79 (hRM 17) flX11_44 rfl rfl rfl (by decide) dX11_line_50 rfl ?_
            refine V_iload_n 54 1 rfl rfl dX11_line_53 rfl ?_
            refine V_ialdN 55 79 6 a (oI (cHr K a)) (hK.2.2.2.2.2.2 a ha) (by omega) (by decide) rfl (by decide) dX11_line_54 rfl ?_
            refine V_istore_n 56 [(3, .int (oI (cHr K a))), (4, .int (nI i)), (0, rf G 69), (2, .int (nI n))] (by decide) rfl rfl dX11_line_55 rfl ?_
            refine V_iinc 59 1 rfl (nI (i + 1)) [(4, .int (nI (i + 1))), (3, .int (oI (cHr K a))), (0, rf G 69), (2, .int (nI n))] (nI_1 _) (by decide) rfl dX11_line_56 rfl ?_
            refine V_goto 38 rfl dX11_line_59 ?_
            exact V_lv [0, 1, 2, 3] rfl ih
      exact V_lv [0, 1, 2, 4] rfl (L 0 (Nat.zero_le _))
    · refine Kq_i (k' := 0) (sl' := 0) rfl rfl ?_
      rw [ckW_n a20] at hq
      refine V_iconst 24 (2) rfl dX11_line_23 rfl ?_
      refine V_iconst 25 (1) rfl dX11_line_24 rfl ?_
      refine V_callV (K' := 0) (S' := 0) 28 69 11 3 [.int 0, .int 2, .int 1] mkX11_may lkX11_216 (by decide) rfl rfl (by decide) rfl (Nat.le_of_ble_eq_true rfl) (Nat.le_of_ble_eq_true rfl) (Nat.le_of_ble_eq_true rfl) (Nat.le_of_ble_eq_true rfl) rfl rfl dX11_line_25 rfl (c_X11_may (cd := 2) (kd := 1) hRM (by decide) (by decide) (by decide) ht (fun e => absurd rfl e) (fun _ => ?_))
      refine Kq_i (k' := 0) (sl' := 0) rfl rfl ?_
      refine V_if_ne 33 31 rfl dX11_line_28 rfl (fun c28 => absurd c28 (by decide)) (fun c28 => ?_)
      refine V_iconst 32 (0) rfl dX11_line_31 rfl ?_
      refine V_ret_i rfl rfl (Nat.le_of_ble_eq_true rfl) (fun h => absurd h (by decide)) (Nat.le_of_ble_eq_true rfl) (hq.x hI0 rfl) dX11_line_32
  · refine Kq_i (k' := 0) (sl' := 0) rfl rfl ?_
    rw [ckN_n (by omega) i8] at hq
    refine V_if_eq 31 14 rfl dX11_line_11 rfl (fun c11 => ?_) (fun c11 => absurd c11 (by decide))
    refine V_iconst 32 (0) rfl dX11_line_31 rfl ?_
    refine V_ret_i rfl rfl (Nat.le_of_ble_eq_true rfl) (fun h => absurd h (by decide)) (Nat.le_of_ble_eq_true rfl) (hq.x hI0 rfl) dX11_line_32
set_option maxHeartbeats 4000000 in
theorem c_X11_stepsTo {G : Gx} {d : Nat} {I : FI} {R : FR} {J : FJ} {Q : Po} (hRM : ∀ k, R 69 k = refM k) {K : CO} (hK : CoastM I K) (hW : WK K) {m t : Nat} (hm : m < cM K) (ht : t < cM K) (hq : Q (.inl (some (.int (stF (cHr K) t 6 0 (some m))))) 103 I R J) : Cc G mX11_stepsTo d 0 0 [rf G 69, .int (nI m), .int (nI t)] 103 I R J Q := by
  have h6 := hW.2.2.1
  have h4 := hW.2.2.2.1
  have L : ∀ n, n ≤ 6 → ∀ (x : Option Nat), (∀ j, x = some j → j < cM K) → Q (.inl (some (.int (stF (cHr K) t (6 - n) n x)))) 103 I R J → V G mX11_stepsTo d 0 0 0 0 5 [(4, .int (nI n)), (3, .int (oI x)), (0, rf G 69), (2, .int (nI t))] [] 103 I R J Q := by
    refine loopd 6 (fun x hx hq => ?_) (fun n hn ih x hx hq => ?_)
    · refine V_iload 7 0 rfl dX11_stepsTo_5 rfl ?_
      refine V_bipush 9 (6) rfl dX11_stepsTo_7 rfl ?_
      refine V_icmp_ge 38 12 rfl dX11_stepsTo_9 rfl (fun c9 => ?_) (fun c9 => absurd (by decide) c9)
      refine V_iconst 39 (-1) rfl dX11_stepsTo_38 rfl ?_
      refine V_ret_i rfl rfl (Nat.le_of_ble_eq_true rfl) (fun h => absurd h (by decide)) (Nat.le_of_ble_eq_true rfl) (hq) dX11_stepsTo_39
    · rw [show 6 - n = (6 - (n + 1)) + 1 by omega] at hq
      cases x with
      | none =>
        refine V_iload 7 0 rfl dX11_stepsTo_5 rfl ?_
        refine V_bipush 9 (6) rfl dX11_stepsTo_7 rfl ?_
        refine V_icmp_ge 38 12 rfl dX11_stepsTo_9 rfl (fun c9 => absurd c9 (nI_ge hn (by decide))) (fun c9 => ?_)
        refine V_iload_n 13 1 rfl rfl dX11_stepsTo_12 rfl ?_
        refine V_iconst 14 (-1) rfl dX11_stepsTo_13 rfl ?_
        refine V_icmp_eq 38 17 rfl dX11_stepsTo_14 rfl (fun c14 => ?_) (fun c14 => absurd rfl c14)
        refine V_iconst 39 (-1) rfl dX11_stepsTo_38 rfl ?_
        refine V_ret_i rfl rfl (Nat.le_of_ble_eq_true rfl) (fun h => absurd h (by decide)) (Nat.le_of_ble_eq_true rfl) (hq) dX11_stepsTo_39
      | some a =>
        have ha := hx a rfl
        rw [stF] at hq
        show V _ _ _ _ _ _ _ _ [(4, .int (nI n)), (3, .int (nI a)), (0, rf G 69), (2, .int (nI t))] [] _ _ _ _ _
        refine V_iload 7 0 rfl dX11_stepsTo_5 rfl ?_
        refine V_bipush 9 (6) rfl dX11_stepsTo_7 rfl ?_
        refine V_icmp_ge 38 12 rfl dX11_stepsTo_9 rfl (fun c9 => absurd c9 (nI_ge hn (by decide))) (fun c9 => ?_)
        refine V_iload_n 13 1 rfl rfl dX11_stepsTo_12 rfl ?_
        refine V_iconst 14 (-1) rfl dX11_stepsTo_13 rfl ?_
        refine V_icmp_eq 38 17 rfl dX11_stepsTo_14 rfl (fun c14 => absurd c14 (nI_ne (by omega))) (fun c14 => ?_)
        refine V_iload_n 18 1 rfl rfl dX11_stepsTo_17 rfl ?_
        refine V_iload_n 19 3 rfl rfl dX11_stepsTo_18 rfl ?_
        refine V_icmp_ne 25 22 rfl dX11_stepsTo_19 rfl (fun c19 => ?_) (fun c19 => ?_)
        · refine V_aload_n 26 2 rfl _ rfl rfl dX11_stepsTo_25 rfl ?_
          refine V_getR 29 69 11 17 79 (hRM 17) flX11_44 rfl rfl rfl (by decide) dX11_stepsTo_26 rfl ?_
          refine V_iload_n 30 1 rfl rfl dX11_stepsTo_29 rfl ?_
          refine V_ialdN 31 79 6 a (oI (cHr K a)) (hK.2.2.2.2.2.2 a ha) (by omega) (by decide) rfl (by decide) dX11_stepsTo_30 rfl ?_
          refine V_istore_n 32 [(3, .int (oI (cHr K a))), (4, .int (nI n)), (0, rf G 69), (2, .int (nI t))] (by decide) rfl rfl dX11_stepsTo_31 rfl ?_
          refine V_iinc 35 1 rfl (nI (n + 1)) [(4, .int (nI (n + 1))), (3, .int (oI (cHr K a))), (0, rf G 69), (2, .int (nI t))] (nI_1 _) (by decide) rfl dX11_stepsTo_32 rfl ?_
          refine V_goto 5 rfl dX11_stepsTo_35 ?_
          rw [if_neg (fun e => c19 (by rw [e]))] at hq
          exact V_lv [0, 1, 2, 3] rfl (ih _ (fun j e => h4 a j e) hq)
        · refine V_iload 24 0 rfl dX11_stepsTo_22 rfl ?_
          refine V_ret_i rfl rfl (Nat.le_of_ble_eq_true rfl) (fun h => absurd h (by decide)) (Nat.le_of_ble_eq_true rfl) (by rw [if_pos ((nI_eq (by omega) (by omega)).mp c19)] at hq; exact hq) dX11_stepsTo_24
  show V _ _ _ _ _ _ _ _ [(0, rf G 69), (1, .int (nI m)), (2, .int (nI t))] [] _ _ _ _ _
  refine V_iload_n 1 1 rfl rfl dX11_stepsTo_0 rfl ?_
  refine V_istore_n 2 [(3, .int (nI m)), (0, rf G 69), (1, .int (nI m)), (2, .int (nI t))] (by decide) rfl rfl dX11_stepsTo_1 rfl ?_
  refine V_iconst 3 (0) rfl dX11_stepsTo_2 rfl ?_
  refine V_istore 5 [(4, .int 0), (3, .int (nI m)), (0, rf G 69), (1, .int (nI m)), (2, .int (nI t))] (by decide) rfl dX11_stepsTo_3 rfl ?_
  exact V_lv [0, 1, 2, 4] rfl (L 0 (Nat.zero_le _) (some m) (fun j e => by cases e; exact hm) hq)
set_option maxHeartbeats 8000000 in
theorem c_X11_meets {G : Gx} {d : Nat} {I : FI} {R : FR} {J : FJ} {Q : Po} {K : CO} {f : DV → Int32} {D : DV} (hX : RM I R K f D) {x y z : Int32}  (hq : HoM I R J Q 2 (ckN x (cM K) (ckN y (cM K) (ckW z 0 1 (.inl (beO (mtF (cHr K) x.toNatClampNeg y.toNatClampNeg (cM K)) z.toNatClampNeg)))))) : Cc G mX11_meets (d + 60) 0 0 [rf G 69, .int x, .int y, .int z] 103 I R J Q := by
  obtain ⟨I0, hI0⟩ : ∃ I0, I0 = up2 I 69 0 0 := ⟨_, rfl⟩
  have hz := FrM.z hI0
  obtain ⟨hRM, hK, hW, hN, hI, hL, hfR⟩ := hX.fr hz
  have ht : I0 69 0 = 0 := hz.2.1
  have h8 := hW.1
  have hg6 := hW.2.1
  have h6 := hW.2.2.1
  have hWD := hI.1
  have hFl := hI.1.1
  have hB := hI.2.2.1
  have hSt := hI.2.1
  show V _ _ _ _ _ _ _ _ [(0, rf G 69), (1, .int x), (2, .int y), (3, .int z)] [] _ _ _ _ _
  refine V_aload_n 1 0 rfl _ rfl rfl dX11_meets_0 rfl ?_
  refine V_iconst 2 (0) rfl dX11_meets_1 rfl ?_
  refine V_putI 5 69 11 0 flX11_3 rfl rfl rfl (by decide) rfl dX11_meets_2 rfl ?_
  rw [← hI0]
  refine V_aload_n 6 0 rfl _ rfl rfl dX11_meets_5 rfl ?_
  refine V_iload_n 7 1 rfl rfl dX11_meets_6 rfl ?_
  refine V_iconst 8 (1) rfl dX11_meets_7 rfl ?_
  refine V_callV (K' := 0) (S' := 0) 11 69 11 2 [.int x, .int 1] mkX11_isMan lkX11_404 (by decide) rfl rfl (by decide) rfl (Nat.le_of_ble_eq_true rfl) (Nat.le_of_ble_eq_true rfl) (Nat.le_of_ble_eq_true rfl) (Nat.le_of_ble_eq_true rfl) rfl rfl dX11_meets_8 rfl (c_X11_isMan (c := cM K) (cd := 1) hRM (by omega) hK.2.2.1 (by decide) (by decide) ht (fun i8 => ?_) (fun i8 => ?_))
  · refine Kq_i (k' := 0) (sl' := 0) rfl rfl ?_
    rw [ckN_y (by omega) i8] at hq
    obtain ⟨m, hm, rfl⟩ := i8
    refine V_if_eq 38 14 rfl dX11_meets_11 rfl (fun c11 => absurd c11 (by decide)) (fun c11 => ?_)
    refine V_aload_n 15 0 rfl _ rfl rfl dX11_meets_14 rfl ?_
    refine V_iload_n 16 2 rfl rfl dX11_meets_15 rfl ?_
    refine V_iconst 17 (1) rfl dX11_meets_16 rfl ?_
    refine V_callV (K' := 0) (S' := 0) 20 69 11 2 [.int y, .int 1] mkX11_isMan lkX11_404 (by decide) rfl rfl (by decide) rfl (Nat.le_of_ble_eq_true rfl) (Nat.le_of_ble_eq_true rfl) (Nat.le_of_ble_eq_true rfl) (Nat.le_of_ble_eq_true rfl) rfl rfl dX11_meets_17 rfl (c_X11_isMan (c := cM K) (cd := 1) hRM (by omega) hK.2.2.1 (by decide) (by decide) ht (fun i17 => ?_) (fun i17 => ?_))
    · refine Kq_i (k' := 0) (sl' := 0) rfl rfl ?_
      rw [ckN_y (by omega) i17] at hq
      obtain ⟨o, ho, rfl⟩ := i17
      refine V_if_eq 38 23 rfl dX11_meets_20 rfl (fun c20 => absurd c20 (by decide)) (fun c20 => ?_)
      refine V_aload_n 24 0 rfl _ rfl rfl dX11_meets_23 rfl ?_
      refine V_iload_n 25 3 rfl rfl dX11_meets_24 rfl ?_
      refine V_iconst 26 (0) rfl dX11_meets_25 rfl ?_
      refine V_iconst 27 (1) rfl dX11_meets_26 rfl ?_
      refine V_callS (K' := 0) (S' := 0) 30 3 [.int z, .int 0, .int 1] mkX11_within lkX11_383 rfl (Nat.le_of_ble_eq_true rfl) (Nat.le_of_ble_eq_true rfl) (Nat.le_of_ble_eq_true rfl) (Nat.le_of_ble_eq_true rfl) rfl rfl dX11_meets_27 rfl (c_X11_within (fun a27 b27 => ?_) (fun a27 => ?_))
      · refine Kq_i (k' := 0) (sl' := 0) rfl rfl ?_
        rw [ckW_y a27 b27] at hq
        obtain ⟨j, hj, rfl⟩ := in_nI (n := 1) (by decide) a27 b27
        refine V_iconst 31 (2) rfl dX11_meets_30 rfl ?_
        refine V_iconst 32 (1) rfl dX11_meets_31 rfl ?_
        refine V_callV (K' := 0) (S' := 0) 35 69 11 3 [.int 1, .int 2, .int 1] mkX11_may lkX11_216 (by decide) rfl rfl (by decide) rfl (Nat.le_of_ble_eq_true rfl) (Nat.le_of_ble_eq_true rfl) (Nat.le_of_ble_eq_true rfl) (Nat.le_of_ble_eq_true rfl) rfl rfl dX11_meets_32 rfl (c_X11_may (cd := 2) (kd := 1) hRM (by decide) (by decide) (by decide) ht (fun _ => ?_) (fun e => absurd e (by decide)))
        refine Kq_i (k' := 0) (sl' := 0) rfl rfl ?_
        refine V_if_ne 40 38 rfl dX11_meets_35 rfl (fun c35 => ?_) (fun c35 => absurd c35 (by decide))
        refine V_iconst 41 (-1) rfl dX11_meets_40 rfl ?_
        refine V_istore 43 [(4, .int (-1)), (0, rf G 69), (1, .int (nI m)), (2, .int (nI o)), (3, .int (nI j))] (by decide) rfl dX11_meets_41 rfl ?_
        refine V_iconst 44 (-1) rfl dX11_meets_43 rfl ?_
        refine V_istore 46 [(5, .int (-1)), (4, .int (-1)), (0, rf G 69), (1, .int (nI m)), (2, .int (nI o)), (3, .int (nI j))] (by decide) rfl dX11_meets_44 rfl ?_
        refine V_iconst 47 (0) rfl dX11_meets_46 rfl ?_
        refine V_istore 49 [(6, .int 0), (5, .int (-1)), (4, .int (-1)), (0, rf G 69), (1, .int (nI m)), (2, .int (nI o)), (3, .int (nI j))] (by decide) rfl dX11_meets_47 rfl ?_
        rw [nI_clamp (show m < 2 ^ 31 by omega), nI_clamp (show o < 2 ^ 31 by omega), nI_clamp (show j < 2 ^ 31 by omega)] at hq
        have L : ∀ i, i ≤ cM K → V G mX11_meets (d + 60) 0 0 0 0 49 [(6, .int (nI i)), (4, .int ((mtF (cHr K) m o i).1)), (5, .int ((mtF (cHr K) m o i).2)), (0, rf G 69), (1, .int (nI m)), (2, .int (nI o)), (3, .int (nI j))] [] 103 I0 R J Q := by
          refine loopd (cM K) ?_ (fun i hi ih => ?_)
          · refine V_iload 51 0 rfl dX11_meets_49 rfl ?_
            refine V_aload_n 52 3 rfl _ rfl rfl dX11_meets_51 rfl ?_
            refine V_getI 55 69 11 23 (nI (cM K)) hK.2.2.1 flX11_181 rfl rfl rfl (by decide) dX11_meets_52 rfl ?_
            refine V_icmp_ge 124 58 rfl dX11_meets_55 rfl (fun c55 => ?_) (fun c55 => absurd (Int32.le_refl _) c55)
            rcases (show j = 0 ∨ j = 1 by omega) with rfl | rfl
            · show V _ _ _ _ _ _ _ _ [(6, .int (nI (cM K))), (4, .int ((mtF (cHr K) m o (cM K)).1)), (5, .int ((mtF (cHr K) m o (cM K)).2)), (0, rf G 69), (1, .int (nI m)), (2, .int (nI o)), (3, .int 0)] [] _ _ _ _ _
              refine V_iload_n 125 6 rfl rfl dX11_meets_124 rfl ?_
              refine V_if_ne 133 128 rfl dX11_meets_125 rfl (fun c125 => absurd c125 (by decide)) (fun c125 => ?_)
              refine V_iload 130 1 rfl dX11_meets_128 rfl ?_
              refine V_goto 135 rfl dX11_meets_130 ?_
              refine V_ret_i rfl rfl (Nat.le_of_ble_eq_true rfl) (fun h => absurd h (by decide)) (Nat.le_of_ble_eq_true rfl) (hq I0 hz) dX11_meets_135
            · show V _ _ _ _ _ _ _ _ [(6, .int (nI (cM K))), (4, .int ((mtF (cHr K) m o (cM K)).1)), (5, .int ((mtF (cHr K) m o (cM K)).2)), (0, rf G 69), (1, .int (nI m)), (2, .int (nI o)), (3, .int 1)] [] _ _ _ _ _
              refine V_iload_n 125 6 rfl rfl dX11_meets_124 rfl ?_
              refine V_if_ne 133 128 rfl dX11_meets_125 rfl (fun c125 => ?_) (fun c125 => absurd c125 (by decide))
              refine V_iload 135 2 rfl dX11_meets_133 rfl ?_
              refine V_ret_i rfl rfl (Nat.le_of_ble_eq_true rfl) (fun h => absurd h (by decide)) (Nat.le_of_ble_eq_true rfl) (hq I0 hz) dX11_meets_135
          · refine V_iload 51 0 rfl dX11_meets_49 rfl ?_
            refine V_aload_n 52 3 rfl _ rfl rfl dX11_meets_51 rfl ?_
            refine V_getI 55 69 11 23 (nI (cM K)) hK.2.2.1 flX11_181 rfl rfl rfl (by decide) dX11_meets_52 rfl ?_
            refine V_icmp_ge 124 58 rfl dX11_meets_55 rfl (fun c55 => absurd c55 (nI_ge hi (by omega))) (fun c55 => ?_)
            refine V_aload_n 59 3 rfl _ rfl rfl dX11_meets_58 rfl ?_
            refine V_iload_n 60 4 rfl rfl dX11_meets_59 rfl ?_
            refine V_iload 62 0 rfl dX11_meets_60 rfl ?_
            refine V_callV (K' := 0) (S' := 0) 65 69 11 2 [.int (nI m), .int (nI i)] mkX11_stepsTo lkX11_425 (by decide) rfl rfl (by decide) rfl (Nat.le_of_ble_eq_true rfl) (Nat.le_of_ble_eq_true rfl) (Nat.le_of_ble_eq_true rfl) (Nat.le_of_ble_eq_true rfl) rfl rfl dX11_meets_62 rfl (c_X11_stepsTo hRM hK hW hm hi ?_)
            refine Kq_i (k' := 0) (sl' := 0) rfl rfl ?_
            refine V_istore 67 [(7, .int (stF (cHr K) i 6 0 (some m))), (6, .int (nI i)), (4, .int ((mtF (cHr K) m o i).1)), (5, .int ((mtF (cHr K) m o i).2)), (0, rf G 69), (1, .int (nI m)), (2, .int (nI o)), (3, .int (nI j))] (by decide) rfl dX11_meets_65 rfl ?_
            refine V_aload_n 68 4 rfl _ rfl rfl dX11_meets_67 rfl ?_
            refine V_iload_n 69 6 rfl rfl dX11_meets_68 rfl ?_
            refine V_iload 71 1 rfl dX11_meets_69 rfl ?_
            refine V_callV (K' := 0) (S' := 0) 74 69 11 2 [.int (nI o), .int (nI i)] mkX11_stepsTo lkX11_425 (by decide) rfl rfl (by decide) rfl (Nat.le_of_ble_eq_true rfl) (Nat.le_of_ble_eq_true rfl) (Nat.le_of_ble_eq_true rfl) (Nat.le_of_ble_eq_true rfl) rfl rfl dX11_meets_71 rfl (c_X11_stepsTo hRM hK hW ho hi ?_)
            refine Kq_i (k' := 0) (sl' := 0) rfl rfl ?_
            refine V_istore 76 [(8, .int (stF (cHr K) i 6 0 (some o))), (7, .int (stF (cHr K) i 6 0 (some m))), (6, .int (nI i)), (4, .int ((mtF (cHr K) m o i).1)), (5, .int ((mtF (cHr K) m o i).2)), (0, rf G 69), (1, .int (nI m)), (2, .int (nI o)), (3, .int (nI j))] (by decide) rfl dX11_meets_74 rfl ?_
            refine V_iload 78 1 rfl dX11_meets_76 rfl ?_
            refine V_iconst 79 (-1) rfl dX11_meets_78 rfl ?_
            refine V_icmp_eq 118 82 rfl dX11_meets_79 rfl (fun c79 => ?_) (fun c79 => ?_)
            · have eG : mtF (cHr K) m o (i + 1) = mtF (cHr K) m o i := mtM_no (by first | exact Or.inl c79 | exact Or.inr (Or.inl c85) | exact Or.inr (Or.inr ⟨c91, c101⟩))
              rw [eG] at ih
              refine V_iinc 121 2 rfl (nI (i + 1)) [(6, .int (nI (i + 1))), (8, .int (stF (cHr K) i 6 0 (some o))), (7, .int (stF (cHr K) i 6 0 (some m))), (4, .int ((mtF (cHr K) m o i).1)), (5, .int ((mtF (cHr K) m o i).2)), (0, rf G 69), (1, .int (nI m)), (2, .int (nI o)), (3, .int (nI j))] (nI_1 _) (by decide) rfl dX11_meets_118 rfl ?_
              refine V_goto 49 rfl dX11_meets_121 ?_
              exact V_lv [0, 3, 4, 5, 6, 7, 8] rfl (ih)
            · refine V_iload 84 0 rfl dX11_meets_82 rfl ?_
              refine V_iconst 85 (-1) rfl dX11_meets_84 rfl ?_
              refine V_icmp_eq 118 88 rfl dX11_meets_85 rfl (fun c85 => ?_) (fun c85 => ?_)
              · have eG : mtF (cHr K) m o (i + 1) = mtF (cHr K) m o i := mtM_no (by first | exact Or.inl c79 | exact Or.inr (Or.inl c85) | exact Or.inr (Or.inr ⟨c91, c101⟩))
                rw [eG] at ih
                refine V_iinc 121 2 rfl (nI (i + 1)) [(6, .int (nI (i + 1))), (8, .int (stF (cHr K) i 6 0 (some o))), (7, .int (stF (cHr K) i 6 0 (some m))), (4, .int ((mtF (cHr K) m o i).1)), (5, .int ((mtF (cHr K) m o i).2)), (0, rf G 69), (1, .int (nI m)), (2, .int (nI o)), (3, .int (nI j))] (nI_1 _) (by decide) rfl dX11_meets_118 rfl ?_
                refine V_goto 49 rfl dX11_meets_121 ?_
                exact V_lv [0, 3, 4, 5, 6, 7, 8] rfl (ih)
              · refine V_iload 90 3 rfl dX11_meets_88 rfl ?_
                refine V_iconst 91 (-1) rfl dX11_meets_90 rfl ?_
                refine V_icmp_eq 107 94 rfl dX11_meets_91 rfl (fun c91 => ?_) (fun c91 => ?_)
                · refine V_iload 109 2 rfl dX11_meets_107 rfl ?_
                  refine V_istore 111 [(4, .int (nI i)), (8, .int (stF (cHr K) i 6 0 (some o))), (7, .int (stF (cHr K) i 6 0 (some m))), (6, .int (nI i)), (5, .int ((mtF (cHr K) m o i).2)), (0, rf G 69), (1, .int (nI m)), (2, .int (nI o)), (3, .int (nI j))] (by decide) rfl dX11_meets_109 rfl ?_
                  refine V_iload 113 2 rfl dX11_meets_111 rfl ?_
                  refine V_iload 115 1 rfl dX11_meets_113 rfl ?_
                  refine V_iadd 116 dX11_meets_115 rfl ?_
                  refine V_istore 118 [(5, .int ((stF (cHr K) i 6 0 (some m)) + (stF (cHr K) i 6 0 (some o)))), (4, .int (nI i)), (8, .int (stF (cHr K) i 6 0 (some o))), (7, .int (stF (cHr K) i 6 0 (some m))), (6, .int (nI i)), (0, rf G 69), (1, .int (nI m)), (2, .int (nI o)), (3, .int (nI j))] (by decide) rfl dX11_meets_116 rfl ?_
                  have eG : mtF (cHr K) m o (i + 1) = (nI i, stF (cHr K) i 6 0 (some m) + stF (cHr K) i 6 0 (some o)) := mtM_go c79 c85 (by first | exact Or.inl c91 | exact Or.inr c101)
                  rw [eG] at ih
                  refine V_iinc 121 4 rfl (nI (i + 1)) [(6, .int (nI (i + 1))), (5, .int ((stF (cHr K) i 6 0 (some m)) + (stF (cHr K) i 6 0 (some o)))), (4, .int (nI i)), (8, .int (stF (cHr K) i 6 0 (some o))), (7, .int (stF (cHr K) i 6 0 (some m))), (0, rf G 69), (1, .int (nI m)), (2, .int (nI o)), (3, .int (nI j))] (nI_1 _) (by decide) rfl dX11_meets_118 rfl ?_
                  refine V_goto 49 rfl dX11_meets_121 ?_
                  exact V_lv [0, 2, 1, 5, 6, 7, 8] rfl (ih)
                · refine V_iload 96 1 rfl dX11_meets_94 rfl ?_
                  refine V_iload 98 0 rfl dX11_meets_96 rfl ?_
                  refine V_iadd 99 dX11_meets_98 rfl ?_
                  refine V_iload 101 4 rfl dX11_meets_99 rfl ?_
                  refine V_icmp_lt 107 104 rfl dX11_meets_101 rfl (fun c101 => ?_) (fun c101 => ?_)
                  · refine V_iload 109 2 rfl dX11_meets_107 rfl ?_
                    refine V_istore 111 [(4, .int (nI i)), (8, .int (stF (cHr K) i 6 0 (some o))), (7, .int (stF (cHr K) i 6 0 (some m))), (6, .int (nI i)), (5, .int ((mtF (cHr K) m o i).2)), (0, rf G 69), (1, .int (nI m)), (2, .int (nI o)), (3, .int (nI j))] (by decide) rfl dX11_meets_109 rfl ?_
                    refine V_iload 113 2 rfl dX11_meets_111 rfl ?_
                    refine V_iload 115 1 rfl dX11_meets_113 rfl ?_
                    refine V_iadd 116 dX11_meets_115 rfl ?_
                    refine V_istore 118 [(5, .int ((stF (cHr K) i 6 0 (some m)) + (stF (cHr K) i 6 0 (some o)))), (4, .int (nI i)), (8, .int (stF (cHr K) i 6 0 (some o))), (7, .int (stF (cHr K) i 6 0 (some m))), (6, .int (nI i)), (0, rf G 69), (1, .int (nI m)), (2, .int (nI o)), (3, .int (nI j))] (by decide) rfl dX11_meets_116 rfl ?_
                    have eG : mtF (cHr K) m o (i + 1) = (nI i, stF (cHr K) i 6 0 (some m) + stF (cHr K) i 6 0 (some o)) := mtM_go c79 c85 (by first | exact Or.inl c91 | exact Or.inr c101)
                    rw [eG] at ih
                    refine V_iinc 121 4 rfl (nI (i + 1)) [(6, .int (nI (i + 1))), (5, .int ((stF (cHr K) i 6 0 (some m)) + (stF (cHr K) i 6 0 (some o)))), (4, .int (nI i)), (8, .int (stF (cHr K) i 6 0 (some o))), (7, .int (stF (cHr K) i 6 0 (some m))), (0, rf G 69), (1, .int (nI m)), (2, .int (nI o)), (3, .int (nI j))] (nI_1 _) (by decide) rfl dX11_meets_118 rfl ?_
                    refine V_goto 49 rfl dX11_meets_121 ?_
                    exact V_lv [0, 2, 1, 5, 6, 7, 8] rfl (ih)
                  · refine V_goto 118 rfl dX11_meets_104 ?_
                    have eG : mtF (cHr K) m o (i + 1) = mtF (cHr K) m o i := mtM_no (by first | exact Or.inl c79 | exact Or.inr (Or.inl c85) | exact Or.inr (Or.inr ⟨c91, c101⟩))
                    rw [eG] at ih
                    refine V_iinc 121 2 rfl (nI (i + 1)) [(6, .int (nI (i + 1))), (8, .int (stF (cHr K) i 6 0 (some o))), (7, .int (stF (cHr K) i 6 0 (some m))), (4, .int ((mtF (cHr K) m o i).1)), (5, .int ((mtF (cHr K) m o i).2)), (0, rf G 69), (1, .int (nI m)), (2, .int (nI o)), (3, .int (nI j))] (nI_1 _) (by decide) rfl dX11_meets_118 rfl ?_
                    refine V_goto 49 rfl dX11_meets_121 ?_
                    exact V_lv [0, 3, 4, 5, 6, 7, 8] rfl (ih)
        exact V_lv [0, 2, 1, 3, 4, 5, 6] rfl (L 0 (Nat.zero_le _))
      · refine Kq_i (k' := 0) (sl' := 0) rfl rfl ?_
        rw [ckW_n a27] at hq
        refine V_iconst 31 (2) rfl dX11_meets_30 rfl ?_
        refine V_iconst 32 (1) rfl dX11_meets_31 rfl ?_
        refine V_callV (K' := 0) (S' := 0) 35 69 11 3 [.int 0, .int 2, .int 1] mkX11_may lkX11_216 (by decide) rfl rfl (by decide) rfl (Nat.le_of_ble_eq_true rfl) (Nat.le_of_ble_eq_true rfl) (Nat.le_of_ble_eq_true rfl) (Nat.le_of_ble_eq_true rfl) rfl rfl dX11_meets_32 rfl (c_X11_may (cd := 2) (kd := 1) hRM (by decide) (by decide) (by decide) ht (fun e => absurd rfl e) (fun _ => ?_))
        refine Kq_i (k' := 0) (sl' := 0) rfl rfl ?_
        refine V_if_ne 40 38 rfl dX11_meets_35 rfl (fun c35 => absurd c35 (by decide)) (fun c35 => ?_)
        refine V_iconst 39 (0) rfl dX11_meets_38 rfl ?_
        refine V_ret_i rfl rfl (Nat.le_of_ble_eq_true rfl) (fun h => absurd h (by decide)) (Nat.le_of_ble_eq_true rfl) (hq.x hI0 rfl) dX11_meets_39
    · refine Kq_i (k' := 0) (sl' := 0) rfl rfl ?_
      rw [ckN_n (by omega) i17] at hq
      refine V_if_eq 38 23 rfl dX11_meets_20 rfl (fun c20 => ?_) (fun c20 => absurd c20 (by decide))
      refine V_iconst 39 (0) rfl dX11_meets_38 rfl ?_
      refine V_ret_i rfl rfl (Nat.le_of_ble_eq_true rfl) (fun h => absurd h (by decide)) (Nat.le_of_ble_eq_true rfl) (hq.x hI0 rfl) dX11_meets_39
  · refine Kq_i (k' := 0) (sl' := 0) rfl rfl ?_
    rw [ckN_n (by omega) i8] at hq
    refine V_if_eq 38 14 rfl dX11_meets_11 rfl (fun c11 => ?_) (fun c11 => absurd c11 (by decide))
    refine V_iconst 39 (0) rfl dX11_meets_38 rfl ?_
    refine V_ret_i rfl rfl (Nat.le_of_ble_eq_true rfl) (fun h => absurd h (by decide)) (Nat.le_of_ble_eq_true rfl) (hq.x hI0 rfl) dX11_meets_39
set_option maxHeartbeats 8000000 in
theorem c_X11_row {G : Gx} {d : Nat} {I : FI} {R : FR} {J : FJ} {Q : Po} {K : CO} {f : DV → Int32} {D : DV} (hX : RM I R K f D) {x : Int32}  (hq : HoM I R J Q 1 (ckN x (cM K) (.inl (rwF (cHr K) 6 ((1 : Int32) <<< (nI x.toNatClampNeg &&& 31)) (cHr K x.toNatClampNeg) 0)))) : Cc G mX11_row (d + 60) 0 0 [rf G 69, .int x] 103 I R J Q := by
  obtain ⟨I0, hI0⟩ : ∃ I0, I0 = up2 I 69 0 0 := ⟨_, rfl⟩
  have hz := FrM.z hI0
  obtain ⟨hRM, hK, hW, hN, hI, hL, hfR⟩ := hX.fr hz
  have ht : I0 69 0 = 0 := hz.2.1
  have h8 := hW.1
  have hg6 := hW.2.1
  have h6 := hW.2.2.1
  have hWD := hI.1
  have hFl := hI.1.1
  have hB := hI.2.2.1
  have hSt := hI.2.1
  show V _ _ _ _ _ _ _ _ [(0, rf G 69), (1, .int x)] [] _ _ _ _ _
  refine V_aload_n 1 0 rfl _ rfl rfl dX11_row_0 rfl ?_
  refine V_iconst 2 (0) rfl dX11_row_1 rfl ?_
  refine V_putI 5 69 11 0 flX11_3 rfl rfl rfl (by decide) rfl dX11_row_2 rfl ?_
  rw [← hI0]
  refine V_aload_n 6 0 rfl _ rfl rfl dX11_row_5 rfl ?_
  refine V_iload_n 7 1 rfl rfl dX11_row_6 rfl ?_
  refine V_iconst 8 (1) rfl dX11_row_7 rfl ?_
  refine V_callV (K' := 0) (S' := 0) 11 69 11 2 [.int x, .int 1] mkX11_isMan lkX11_404 (by decide) rfl rfl (by decide) rfl (Nat.le_of_ble_eq_true rfl) (Nat.le_of_ble_eq_true rfl) (Nat.le_of_ble_eq_true rfl) (Nat.le_of_ble_eq_true rfl) rfl rfl dX11_row_8 rfl (c_X11_isMan (c := cM K) (cd := 1) hRM (by omega) hK.2.2.1 (by decide) (by decide) ht (fun i8 => ?_) (fun i8 => ?_))
  · refine Kq_i (k' := 0) (sl' := 0) rfl rfl ?_
    rw [ckN_y (by omega) i8] at hq
    obtain ⟨m, hm, rfl⟩ := i8
    refine V_if_ne 16 14 rfl dX11_row_11 rfl (fun c11 => ?_) (fun c11 => absurd c11 (by decide))
    refine V_iconst 17 (1) rfl dX11_row_16 rfl ?_
    refine V_iload_n 18 1 rfl rfl dX11_row_17 rfl ?_
    refine V_ishl 19 dX11_row_18 rfl ?_
    rw [nI_clamp (show m < 2 ^ 31 by omega)] at hq
    refine V_istore_n 20 [(2, .int ((1 : Int32) <<< (nI m &&& 31))), (0, rf G 69), (1, .int (nI m))] (by decide) rfl rfl dX11_row_19 rfl ?_
    refine V_iconst 21 (0) rfl dX11_row_20 rfl ?_
    refine V_istore_n 22 [(3, .int 0), (2, .int ((1 : Int32) <<< (nI m &&& 31))), (0, rf G 69), (1, .int (nI m))] (by decide) rfl rfl dX11_row_21 rfl ?_
    refine V_aload_n 23 2 rfl _ rfl rfl dX11_row_22 rfl ?_
    refine V_getR 26 69 11 17 79 (hRM 17) flX11_44 rfl rfl rfl (by decide) dX11_row_23 rfl ?_
    refine V_iload_n 27 3 rfl rfl dX11_row_26 rfl ?_
    refine V_ialdN 28 79 6 m (oI (cHr K m)) (hK.2.2.2.2.2.2 m hm) (by omega) (by decide) rfl (by decide) dX11_row_27 rfl ?_
    refine V_istore 30 [(4, .int (oI (cHr K m))), (3, .int 0), (2, .int ((1 : Int32) <<< (nI m &&& 31))), (0, rf G 69), (1, .int (nI m))] (by decide) rfl dX11_row_28 rfl ?_
    obtain ⟨b1, b2, b3⟩ := rw_one m (by omega)
    rw [b1] at hq ⊢
    have L : ∀ g n S (x : Option Nat), g + n = 6 → S < 64 → pcN S = n + 1 → (∀ j, x = some j → j < cM K) → HoM I R J Q 1 (.inl (rwF (cHr K) g (nI S) x n)) → V G mX11_row (d + 60) 0 0 0 0 30 [(4, .int (oI x)), (3, .int (nI n)), (2, .int (nI S)), (0, rf G 69)] [] 103 I0 R J Q := by
      intro g
      induction g with
      | zero =>
        intro n S x h1 h2 h3
        exfalso
        unfold pcN at h3
        omega
      | succ g ih =>
        intro n S x h1 h2 h3 hx hq
        cases x with
        | none =>
          refine V_iload 32 0 rfl dX11_row_30 rfl ?_
          refine V_iconst 33 (-1) rfl dX11_row_32 rfl ?_
          refine V_icmp_eq 67 36 rfl dX11_row_33 rfl (fun c33 => ?_) (fun c33 => absurd rfl c33)
          refine V_iload_n 68 1 rfl rfl dX11_row_67 rfl ?_
          refine V_ret_i rfl rfl (Nat.le_of_ble_eq_true rfl) (fun h => absurd h (by decide)) (Nat.le_of_ble_eq_true rfl) (hq I0 hz) dX11_row_68
        | some a =>
          have ha := hx a rfl
          rw [rwF] at hq
          show V G mX11_row (d + 60) 0 0 0 0 30 [(4, .int (nI a)), (3, .int (nI n)), (2, .int (nI S)), (0, rf G 69)] [] 103 I0 R J Q
          refine V_iload 32 0 rfl dX11_row_30 rfl ?_
          refine V_iconst 33 (-1) rfl dX11_row_32 rfl ?_
          refine V_icmp_eq 67 36 rfl dX11_row_33 rfl (fun c33 => absurd c33 (nI_ne (by omega))) (fun c33 => ?_)
          refine V_iload_n 37 2 rfl rfl dX11_row_36 rfl ?_
          refine V_iload 39 0 rfl dX11_row_37 rfl ?_
          refine V_ishr 40 dX11_row_39 rfl ?_
          refine V_iconst 41 (1) rfl dX11_row_40 rfl ?_
          refine V_iand 42 dX11_row_41 rfl ?_
          refine V_if_ne 67 45 rfl dX11_row_42 rfl (fun c42 => ?_) (fun c42 => ?_)
          · refine V_iload_n 68 1 rfl rfl dX11_row_67 rfl ?_
            refine V_ret_i rfl rfl (Nat.le_of_ble_eq_true rfl) (fun h => absurd h (by decide)) (Nat.le_of_ble_eq_true rfl) (by rw [if_neg c42] at hq; exact hq I0 hz) dX11_row_68
          · refine V_iload_n 46 2 rfl rfl dX11_row_45 rfl ?_
            refine V_iconst 47 (1) rfl dX11_row_46 rfl ?_
            refine V_iload 49 0 rfl dX11_row_47 rfl ?_
            refine V_ishl 50 dX11_row_49 rfl ?_
            refine V_ior 51 dX11_row_50 rfl ?_
            have b4 := rw_bit S h2 a (by omega) c42
            refine V_rw (show _ = nI (S + 2 ^ a) from b4.1) ?_
            refine V_istore_n 52 [(2, .int (nI (S + 2 ^ a))), (4, .int (nI a)), (3, .int (nI n)), (0, rf G 69)] (by decide) rfl rfl dX11_row_51 rfl ?_
            refine V_iinc 55 2 rfl (nI (n + 1)) [(3, .int (nI (n + 1))), (2, .int (nI (S + 2 ^ a))), (4, .int (nI a)), (0, rf G 69)] (nI_1 _) (by decide) rfl dX11_row_52 rfl ?_
            refine V_aload_n 56 3 rfl _ rfl rfl dX11_row_55 rfl ?_
            refine V_getR 59 69 11 17 79 (hRM 17) flX11_44 rfl rfl rfl (by decide) dX11_row_56 rfl ?_
            refine V_iload 61 2 rfl dX11_row_59 rfl ?_
            refine V_ialdN 62 79 6 a (oI (cHr K a)) (hK.2.2.2.2.2.2 a ha) (by omega) (by decide) rfl (by decide) dX11_row_61 rfl ?_
            refine V_istore 64 [(4, .int (oI (cHr K a))), (3, .int (nI (n + 1))), (2, .int (nI (S + 2 ^ a))), (0, rf G 69)] (by decide) rfl dX11_row_62 rfl ?_
            refine V_goto 30 rfl dX11_row_64 ?_
            rw [if_pos c42, b4.1] at hq
            exact V_lv [0, 1, 2, 3] rfl (ih (n + 1) (S + 2 ^ a) (cHr K a) (by omega) b4.2.1 (by rw [b4.2.2]; omega) (fun j e => hW.2.2.2.1 a j e) hq)
    exact V_lv [0, 1, 2, 3] rfl (L 6 0 (2 ^ m) (cHr K m) rfl b2 b3 (fun j e => hW.2.2.2.1 m j e) hq)
  · refine Kq_i (k' := 0) (sl' := 0) rfl rfl ?_
    rw [ckN_n (by omega) i8] at hq
    refine V_if_ne 16 14 rfl dX11_row_11 rfl (fun c11 => absurd c11 (by decide)) (fun c11 => ?_)
    refine V_iconst 15 (0) rfl dX11_row_14 rfl ?_
    refine V_ret_i rfl rfl (Nat.le_of_ble_eq_true rfl) (fun h => absurd h (by decide)) (Nat.le_of_ble_eq_true rfl) (hq.x hI0 rfl) dX11_row_15
set_option maxHeartbeats 8000000 in
theorem c_X11_from {G : Gx} {d : Nat} {I : FI} {R : FR} {J : FJ} {Q : Po} {K : CO} {f : DV → Int32} {D : DV} (hX : RM I R K f D) {x : Int32}  (hq : HoM I R J Q 1 (ckW x 0 7 (.inl (fromF (cHat K) x (cH K))))) : Cc G mX11_from (d + 60) 0 0 [rf G 69, .int x] 103 I R J Q := by
  obtain ⟨I0, hI0⟩ : ∃ I0, I0 = up2 I 69 0 0 := ⟨_, rfl⟩
  have hz := FrM.z hI0
  obtain ⟨hRM, hK, hW, hN, hI, hL, hfR⟩ := hX.fr hz
  have ht : I0 69 0 = 0 := hz.2.1
  have h8 := hW.1
  have hg6 := hW.2.1
  have h6 := hW.2.2.1
  have hWD := hI.1
  have hFl := hI.1.1
  have hB := hI.2.2.1
  have hSt := hI.2.1
  show V _ _ _ _ _ _ _ _ [(0, rf G 69), (1, .int x)] [] _ _ _ _ _
  refine V_aload_n 1 0 rfl _ rfl rfl dX11_from_0 rfl ?_
  refine V_iconst 2 (0) rfl dX11_from_1 rfl ?_
  refine V_putI 5 69 11 0 flX11_3 rfl rfl rfl (by decide) rfl dX11_from_2 rfl ?_
  rw [← hI0]
  refine V_aload_n 6 0 rfl _ rfl rfl dX11_from_5 rfl ?_
  refine V_iload_n 7 1 rfl rfl dX11_from_6 rfl ?_
  refine V_iconst 8 (0) rfl dX11_from_7 rfl ?_
  refine V_bipush 10 (7) rfl dX11_from_8 rfl ?_
  refine V_callS (K' := 0) (S' := 0) 13 3 [.int x, .int 0, .int 7] mkX11_within lkX11_383 rfl (Nat.le_of_ble_eq_true rfl) (Nat.le_of_ble_eq_true rfl) (Nat.le_of_ble_eq_true rfl) (Nat.le_of_ble_eq_true rfl) rfl rfl dX11_from_10 rfl (c_X11_within (fun a10 b10 => ?_) (fun a10 => ?_))
  · refine Kq_i (k' := 0) (sl' := 0) rfl rfl ?_
    rw [ckW_y a10 b10] at hq
    refine V_iconst 14 (1) rfl dX11_from_13 rfl ?_
    refine V_iconst 15 (1) rfl dX11_from_14 rfl ?_
    refine V_callV (K' := 0) (S' := 0) 18 69 11 3 [.int 1, .int 1, .int 1] mkX11_may lkX11_216 (by decide) rfl rfl (by decide) rfl (Nat.le_of_ble_eq_true rfl) (Nat.le_of_ble_eq_true rfl) (Nat.le_of_ble_eq_true rfl) (Nat.le_of_ble_eq_true rfl) rfl rfl dX11_from_15 rfl (c_X11_may (cd := 1) (kd := 1) hRM (by decide) (by decide) (by decide) ht (fun _ => ?_) (fun e => absurd e (by decide)))
    refine Kq_i (k' := 0) (sl' := 0) rfl rfl ?_
    refine V_if_ne 23 21 rfl dX11_from_18 rfl (fun c18 => ?_) (fun c18 => absurd c18 (by decide))
    refine V_iconst 24 (0) rfl dX11_from_23 rfl ?_
    refine V_istore_n 25 [(2, .int 0), (0, rf G 69), (1, .int x)] (by decide) rfl rfl dX11_from_24 rfl ?_
    refine V_iconst 26 (0) rfl dX11_from_25 rfl ?_
    refine V_istore_n 27 [(3, .int 0), (2, .int 0), (0, rf G 69), (1, .int x)] (by decide) rfl rfl dX11_from_26 rfl ?_
    have L : ∀ i, i ≤ cH K → V G mX11_from (d + 60) 0 0 0 0 27 [(3, .int (nI i)), (2, .int (fromF (cHat K) x i)), (0, rf G 69), (1, .int x)] [] 103 I0 R J Q := by
      refine loopd (cH K) ?_ (fun i hi ih => ?_)
      · refine V_iload_n 28 0 rfl rfl dX11_from_27 rfl ?_
        refine V_aload_n 29 2 rfl _ rfl rfl dX11_from_28 rfl ?_
        refine V_getI 32 69 11 21 (nI (cH K)) hK.1 flX11_175 rfl rfl rfl (by decide) dX11_from_29 rfl ?_
        refine V_icmp_ge 65 35 rfl dX11_from_32 rfl (fun c32 => ?_) (fun c32 => absurd (Int32.le_refl _) c32)
        refine V_iload_n 66 1 rfl rfl dX11_from_65 rfl ?_
        refine V_ret_i rfl rfl (Nat.le_of_ble_eq_true rfl) (fun h => absurd h (by decide)) (Nat.le_of_ble_eq_true rfl) (hq I0 hz) dX11_from_66
      · refine V_iload_n 28 0 rfl rfl dX11_from_27 rfl ?_
        refine V_aload_n 29 2 rfl _ rfl rfl dX11_from_28 rfl ?_
        refine V_getI 32 69 11 21 (nI (cH K)) hK.1 flX11_175 rfl rfl rfl (by decide) dX11_from_29 rfl ?_
        refine V_icmp_ge 65 35 rfl dX11_from_32 rfl (fun c32 => absurd c32 (nI_ge hi (by omega))) (fun c32 => ?_)
        refine V_iload_n 36 1 rfl rfl dX11_from_35 rfl ?_
        refine V_aload_n 37 2 rfl _ rfl rfl dX11_from_36 rfl ?_
        refine V_getR 40 69 11 14 76 (hRM 14) flX11_35 rfl rfl rfl (by decide) dX11_from_37 rfl ?_
        refine V_iconst 41 (2) rfl dX11_from_40 rfl ?_
        refine V_iload_n 42 0 rfl rfl dX11_from_41 rfl ?_
        refine V_imul 43 dX11_from_42 rfl ?_
        refine V_rw (pk_mul 2 i) ?_
        refine V_iconst 44 (1) rfl dX11_from_43 rfl ?_
        refine V_iadd 45 dX11_from_44 rfl ?_
        refine V_rw (nI_add (2 * i) 1) ?_
        refine V_ialdN 46 76 16 ((2 * i) + 1) (cHat K (2 * i + 1)) (hK.2.2.2.1 i hi).2 (by omega) (by decide) rfl (by decide) dX11_from_45 rfl ?_
        refine V_iload_n 47 3 rfl rfl dX11_from_46 rfl ?_
        refine V_icmp_ne 56 50 rfl dX11_from_47 rfl (fun c47 => ?_) (fun c47 => ?_)
        · refine V_iconst 57 (0) rfl dX11_from_56 rfl ?_
          refine V_ior 58 dX11_from_57 rfl ?_
          refine V_rw (show _ = fromF (cHat K) x (i + 1) from by rw [fromF]; first | rw [if_pos c47] | rw [if_neg c47]) ?_
          refine V_istore_n 59 [(2, .int (fromF (cHat K) x (i + 1))), (3, .int (nI i)), (0, rf G 69), (1, .int x)] (by decide) rfl rfl dX11_from_58 rfl ?_
          refine V_iinc 62 1 rfl (nI (i + 1)) [(3, .int (nI (i + 1))), (2, .int (fromF (cHat K) x (i + 1))), (0, rf G 69), (1, .int x)] (nI_1 _) (by decide) rfl dX11_from_59 rfl ?_
          refine V_goto 27 rfl dX11_from_62 ?_
          exact V_lv [0, 1, 2, 3] rfl (ih)
        · refine V_iconst 51 (1) rfl dX11_from_50 rfl ?_
          refine V_iload_n 52 0 rfl rfl dX11_from_51 rfl ?_
          refine V_ishl 53 dX11_from_52 rfl ?_
          refine V_goto 57 rfl dX11_from_53 ?_
          refine V_ior 58 dX11_from_57 rfl ?_
          refine V_rw (show _ = fromF (cHat K) x (i + 1) from by rw [fromF]; first | rw [if_pos c47] | rw [if_neg c47]) ?_
          refine V_istore_n 59 [(2, .int (fromF (cHat K) x (i + 1))), (3, .int (nI i)), (0, rf G 69), (1, .int x)] (by decide) rfl rfl dX11_from_58 rfl ?_
          refine V_iinc 62 1 rfl (nI (i + 1)) [(3, .int (nI (i + 1))), (2, .int (fromF (cHat K) x (i + 1))), (0, rf G 69), (1, .int x)] (nI_1 _) (by decide) rfl dX11_from_59 rfl ?_
          refine V_goto 27 rfl dX11_from_62 ?_
          exact V_lv [0, 1, 2, 3] rfl (ih)
    exact V_lv [0, 1, 2, 3] rfl (L 0 (Nat.zero_le _))
  · refine Kq_i (k' := 0) (sl' := 0) rfl rfl ?_
    rw [ckW_n a10] at hq
    refine V_iconst 14 (1) rfl dX11_from_13 rfl ?_
    refine V_iconst 15 (1) rfl dX11_from_14 rfl ?_
    refine V_callV (K' := 0) (S' := 0) 18 69 11 3 [.int 0, .int 1, .int 1] mkX11_may lkX11_216 (by decide) rfl rfl (by decide) rfl (Nat.le_of_ble_eq_true rfl) (Nat.le_of_ble_eq_true rfl) (Nat.le_of_ble_eq_true rfl) (Nat.le_of_ble_eq_true rfl) rfl rfl dX11_from_15 rfl (c_X11_may (cd := 1) (kd := 1) hRM (by decide) (by decide) (by decide) ht (fun e => absurd rfl e) (fun _ => ?_))
    refine Kq_i (k' := 0) (sl' := 0) rfl rfl ?_
    refine V_if_ne 23 21 rfl dX11_from_18 rfl (fun c18 => absurd c18 (by decide)) (fun c18 => ?_)
    refine V_iconst 22 (0) rfl dX11_from_21 rfl ?_
    refine V_ret_i rfl rfl (Nat.le_of_ble_eq_true rfl) (fun h => absurd h (by decide)) (Nat.le_of_ble_eq_true rfl) (hq.x hI0 rfl) dX11_from_22
set_option maxHeartbeats 8000000 in
theorem c_X11_best {G : Gx} {d : Nat} {I : FI} {R : FR} {J : FJ} {Q : Po} {K : CO} {f : DV → Int32} {D : DV} (hX : RM I R K f D) {x : Int32}  (hq : HoM I R J Q 1 (ckW x 0 1 (.inl (beF (bstF D 6) x.toNatClampNeg)))) : Cc G mX11_best (d + 60) 0 0 [rf G 69, .int x] 103 I R J Q := by
  obtain ⟨I0, hI0⟩ : ∃ I0, I0 = up2 I 69 0 0 := ⟨_, rfl⟩
  have hz := FrM.z hI0
  obtain ⟨hRM, hK, hW, hN, hI, hL, hfR⟩ := hX.fr hz
  have ht : I0 69 0 = 0 := hz.2.1
  have h8 := hW.1
  have hg6 := hW.2.1
  have h6 := hW.2.2.1
  have hWD := hI.1
  have hFl := hI.1.1
  have hB := hI.2.2.1
  have hSt := hI.2.1
  show V _ _ _ _ _ _ _ _ [(0, rf G 69), (1, .int x)] [] _ _ _ _ _
  refine V_aload_n 1 0 rfl _ rfl rfl dX11_best_0 rfl ?_
  refine V_iconst 2 (0) rfl dX11_best_1 rfl ?_
  refine V_putI 5 69 11 0 flX11_3 rfl rfl rfl (by decide) rfl dX11_best_2 rfl ?_
  rw [← hI0]
  refine V_aload_n 6 0 rfl _ rfl rfl dX11_best_5 rfl ?_
  refine V_iload_n 7 1 rfl rfl dX11_best_6 rfl ?_
  refine V_iconst 8 (0) rfl dX11_best_7 rfl ?_
  refine V_iconst 9 (1) rfl dX11_best_8 rfl ?_
  refine V_callS (K' := 0) (S' := 0) 12 3 [.int x, .int 0, .int 1] mkX11_within lkX11_383 rfl (Nat.le_of_ble_eq_true rfl) (Nat.le_of_ble_eq_true rfl) (Nat.le_of_ble_eq_true rfl) (Nat.le_of_ble_eq_true rfl) rfl rfl dX11_best_9 rfl (c_X11_within (fun a9 b9 => ?_) (fun a9 => ?_))
  · refine Kq_i (k' := 0) (sl' := 0) rfl rfl ?_
    rw [ckW_y a9 b9] at hq
    obtain ⟨j, hj, rfl⟩ := in_nI (n := 1) (by decide) a9 b9
    refine V_iconst 13 (1) rfl dX11_best_12 rfl ?_
    refine V_iconst 14 (1) rfl dX11_best_13 rfl ?_
    refine V_callV (K' := 0) (S' := 0) 17 69 11 3 [.int 1, .int 1, .int 1] mkX11_may lkX11_216 (by decide) rfl rfl (by decide) rfl (Nat.le_of_ble_eq_true rfl) (Nat.le_of_ble_eq_true rfl) (Nat.le_of_ble_eq_true rfl) (Nat.le_of_ble_eq_true rfl) rfl rfl dX11_best_14 rfl (c_X11_may (cd := 1) (kd := 1) hRM (by decide) (by decide) (by decide) ht (fun _ => ?_) (fun e => absurd e (by decide)))
    refine Kq_i (k' := 0) (sl' := 0) rfl rfl ?_
    refine V_if_ne 22 20 rfl dX11_best_17 rfl (fun c17 => ?_) (fun c17 => absurd c17 (by decide))
    refine V_iconst 23 (-1) rfl dX11_best_22 rfl ?_
    refine V_istore_n 24 [(2, .int (-1)), (0, rf G 69), (1, .int (nI j))] (by decide) rfl rfl dX11_best_23 rfl ?_
    refine V_iconst 25 (0) rfl dX11_best_24 rfl ?_
    refine V_istore_n 26 [(3, .int 0), (2, .int (-1)), (0, rf G 69), (1, .int (nI j))] (by decide) rfl rfl dX11_best_25 rfl ?_
    refine V_iconst 27 (0) rfl dX11_best_26 rfl ?_
    refine V_istore 29 [(4, .int 0), (3, .int 0), (2, .int (-1)), (0, rf G 69), (1, .int (nI j))] (by decide) rfl dX11_best_27 rfl ?_
    rw [nI_clamp (show j < 2 ^ 31 by omega)] at hq
    rw [bstF_to (fun m a b => (hB m a b).2.2.2) 6 h6 (Nat.le_refl _)] at hq
    have L : ∀ i, i ≤ cM K → V G mX11_best (d + 60) 0 0 0 0 29 [(4, .int (nI i)), (2, .int ((bstF D i).1)), (3, .int ((bstF D i).2)), (0, rf G 69), (1, .int (nI j))] [] 103 I0 R J Q := by
      refine loopd (cM K) ?_ (fun i hi ih => ?_)
      · refine V_iload 31 0 rfl dX11_best_29 rfl ?_
        refine V_aload_n 32 3 rfl _ rfl rfl dX11_best_31 rfl ?_
        refine V_getI 35 69 11 23 (nI (cM K)) hK.2.2.1 flX11_181 rfl rfl rfl (by decide) dX11_best_32 rfl ?_
        refine V_icmp_ge 75 38 rfl dX11_best_35 rfl (fun c35 => ?_) (fun c35 => absurd (Int32.le_refl _) c35)
        rcases (show j = 0 ∨ j = 1 by omega) with rfl | rfl
        · show V _ _ _ _ _ _ _ _ [(4, .int (nI (cM K))), (2, .int ((bstF D (cM K)).1)), (3, .int ((bstF D (cM K)).2)), (0, rf G 69), (1, .int 0)] [] _ _ _ _ _
          refine V_iload_n 76 4 rfl rfl dX11_best_75 rfl ?_
          refine V_if_eq 84 79 rfl dX11_best_76 rfl (fun c76 => ?_) (fun c76 => absurd c76 (by decide))
          refine V_iload_n 85 1 rfl rfl dX11_best_84 rfl ?_
          refine V_goto 89 rfl dX11_best_85 ?_
          refine V_ret_i rfl rfl (Nat.le_of_ble_eq_true rfl) (fun h => absurd h (by decide)) (Nat.le_of_ble_eq_true rfl) (by rw [show beF (bstF D (cM K)) 0 = (bstF D (cM K)).1 from if_pos (Or.inl rfl)] at hq; exact hq I0 hz) dX11_best_89
        · show V _ _ _ _ _ _ _ _ [(4, .int (nI (cM K))), (2, .int ((bstF D (cM K)).1)), (3, .int ((bstF D (cM K)).2)), (0, rf G 69), (1, .int 1)] [] _ _ _ _ _
          refine V_iload_n 76 4 rfl rfl dX11_best_75 rfl ?_
          refine V_if_eq 84 79 rfl dX11_best_76 rfl (fun c76 => absurd c76 (by decide)) (fun c76 => ?_)
          refine V_iload_n 80 1 rfl rfl dX11_best_79 rfl ?_
          refine V_iconst 81 (-1) rfl dX11_best_80 rfl ?_
          refine V_icmp_ne 88 84 rfl dX11_best_81 rfl (fun c81 => ?_) (fun c81 => ?_)
          · refine V_iload_n 89 2 rfl rfl dX11_best_88 rfl ?_
            refine V_ret_i rfl rfl (Nat.le_of_ble_eq_true rfl) (fun h => absurd h (by decide)) (Nat.le_of_ble_eq_true rfl) (by rw [show beF (bstF D (cM K)) 1 = (bstF D (cM K)).2 from if_neg (fun h => h.elim (by decide) c81)] at hq; exact hq I0 hz) dX11_best_89
          · refine V_iload_n 85 1 rfl rfl dX11_best_84 rfl ?_
            refine V_goto 89 rfl dX11_best_85 ?_
            refine V_ret_i rfl rfl (Nat.le_of_ble_eq_true rfl) (fun h => absurd h (by decide)) (Nat.le_of_ble_eq_true rfl) (by rw [show beF (bstF D (cM K)) 1 = (bstF D (cM K)).1 from if_pos (Or.inr c81)] at hq; exact hq I0 hz) dX11_best_89
      · refine V_iload 31 0 rfl dX11_best_29 rfl ?_
        refine V_aload_n 32 3 rfl _ rfl rfl dX11_best_31 rfl ?_
        refine V_getI 35 69 11 23 (nI (cM K)) hK.2.2.1 flX11_181 rfl rfl rfl (by decide) dX11_best_32 rfl ?_
        refine V_icmp_ge 75 38 rfl dX11_best_35 rfl (fun c35 => absurd c35 (nI_ge hi (by omega))) (fun c35 => ?_)
        refine V_aload_n 39 3 rfl _ rfl rfl dX11_best_38 rfl ?_
        refine V_getR 42 69 11 40 88 (hRM 40) flX11_71 rfl rfl rfl (by decide) dX11_best_39 rfl ?_
        refine V_bipush 44 (24) rfl dX11_best_42 rfl ?_
        refine V_iload 46 0 rfl dX11_best_44 rfl ?_
        refine V_iadd 47 dX11_best_46 rfl ?_
        refine V_rw (nI_add 24 i) ?_
        refine V_ialdN 48 88 51 (24 + i) (D (24 + i)) (hN ((24 + i)) (by omega)) (by omega) (by decide) rfl (by decide) dX11_best_47 rfl ?_
        refine V_iload_n 49 2 rfl rfl dX11_best_48 rfl ?_
        refine V_icmp_gt 55 52 rfl dX11_best_49 rfl (fun c49 => ?_) (fun c49 => ?_)
        · refine V_iload 57 0 rfl dX11_best_55 rfl ?_
          refine V_istore_n 58 [(2, .int (nI i)), (4, .int (nI i)), (3, .int ((bstF D i).2)), (0, rf G 69), (1, .int (nI j))] (by decide) rfl rfl dX11_best_57 rfl ?_
          refine V_aload_n 59 3 rfl _ rfl rfl dX11_best_58 rfl ?_
          refine V_getR 62 69 11 40 88 (hRM 40) flX11_71 rfl rfl rfl (by decide) dX11_best_59 rfl ?_
          refine V_bipush 64 (24) rfl dX11_best_62 rfl ?_
          refine V_iload 66 1 rfl dX11_best_64 rfl ?_
          refine V_iadd 67 dX11_best_66 rfl ?_
          refine V_rw (nI_add 24 i) ?_
          refine V_ialdN 68 88 51 (24 + i) (D (24 + i)) (hN ((24 + i)) (by omega)) (by omega) (by decide) rfl (by decide) dX11_best_67 rfl ?_
          refine V_istore_n 69 [(3, .int (D (24 + i))), (2, .int (nI i)), (4, .int (nI i)), (0, rf G 69), (1, .int (nI j))] (by decide) rfl rfl dX11_best_68 rfl ?_
          have eG : bstF D (i + 1) = (nI i, D (24 + i)) := if_pos c49
          rw [eG] at ih
          refine V_iinc 72 2 rfl (nI (i + 1)) [(4, .int (nI (i + 1))), (3, .int (D (24 + i))), (2, .int (nI i)), (0, rf G 69), (1, .int (nI j))] (nI_1 _) (by decide) rfl dX11_best_69 rfl ?_
          refine V_goto 29 rfl dX11_best_72 ?_
          exact V_lv [0, 2, 1, 3, 4] rfl (ih)
        · refine V_goto 69 rfl dX11_best_52 ?_
          have eG : bstF D (i + 1) = bstF D i := if_neg c49
          rw [eG] at ih
          refine V_iinc 72 0 rfl (nI (i + 1)) [(4, .int (nI (i + 1))), (2, .int ((bstF D i).1)), (3, .int ((bstF D i).2)), (0, rf G 69), (1, .int (nI j))] (nI_1 _) (by decide) rfl dX11_best_69 rfl ?_
          refine V_goto 29 rfl dX11_best_72 ?_
          exact V_lv [0, 1, 2, 3, 4] rfl (ih)
    exact V_lv [0, 2, 1, 3, 4] rfl (L 0 (Nat.zero_le _))
  · refine Kq_i (k' := 0) (sl' := 0) rfl rfl ?_
    rw [ckW_n a9] at hq
    refine V_iconst 13 (1) rfl dX11_best_12 rfl ?_
    refine V_iconst 14 (1) rfl dX11_best_13 rfl ?_
    refine V_callV (K' := 0) (S' := 0) 17 69 11 3 [.int 0, .int 1, .int 1] mkX11_may lkX11_216 (by decide) rfl rfl (by decide) rfl (Nat.le_of_ble_eq_true rfl) (Nat.le_of_ble_eq_true rfl) (Nat.le_of_ble_eq_true rfl) (Nat.le_of_ble_eq_true rfl) rfl rfl dX11_best_14 rfl (c_X11_may (cd := 1) (kd := 1) hRM (by decide) (by decide) (by decide) ht (fun e => absurd rfl e) (fun _ => ?_))
    refine Kq_i (k' := 0) (sl' := 0) rfl rfl ?_
    refine V_if_ne 22 20 rfl dX11_best_17 rfl (fun c17 => absurd c17 (by decide)) (fun c17 => ?_)
    refine V_iconst 21 (0) rfl dX11_best_20 rfl ?_
    refine V_ret_i rfl rfl (Nat.le_of_ble_eq_true rfl) (fun h => absurd h (by decide)) (Nat.le_of_ble_eq_true rfl) (hq.x hI0 rfl) dX11_best_21
set_option maxHeartbeats 8000000 in
theorem c_X11_two {G : Gx} {d : Nat} {I : FI} {R : FR} {J : FJ} {Q : Po} {K : CO} {f : DV → Int32} {D : DV} (hX : RM I R K f D) {x y z : Int32}  (hq : HoM I R J Q 1 (ckW x 0 99 (ckW y 0 99 (ckW z 0 2 (.inl (twF x z.toNatClampNeg)))))) : Cc G mX11_two (d + 60) 0 0 [rf G 69, .int x, .int y, .int z] 103 I R J Q := by
  obtain ⟨I0, hI0⟩ : ∃ I0, I0 = up2 I 69 0 0 := ⟨_, rfl⟩
  have hz := FrM.z hI0
  obtain ⟨hRM, hK, hW, hN, hI, hL, hfR⟩ := hX.fr hz
  have ht : I0 69 0 = 0 := hz.2.1
  have h8 := hW.1
  have hg6 := hW.2.1
  have h6 := hW.2.2.1
  have hWD := hI.1
  have hFl := hI.1.1
  have hB := hI.2.2.1
  have hSt := hI.2.1
  show V _ _ _ _ _ _ _ _ [(0, rf G 69), (1, .int x), (2, .int y), (3, .int z)] [] _ _ _ _ _
  refine V_aload_n 1 0 rfl _ rfl rfl dX11_two_0 rfl ?_
  refine V_iconst 2 (0) rfl dX11_two_1 rfl ?_
  refine V_putI 5 69 11 0 flX11_3 rfl rfl rfl (by decide) rfl dX11_two_2 rfl ?_
  rw [← hI0]
  refine V_aload_n 6 0 rfl _ rfl rfl dX11_two_5 rfl ?_
  refine V_iload_n 7 1 rfl rfl dX11_two_6 rfl ?_
  refine V_iconst 8 (0) rfl dX11_two_7 rfl ?_
  refine V_bipush 10 (99) rfl dX11_two_8 rfl ?_
  refine V_callS (K' := 0) (S' := 0) 13 3 [.int x, .int 0, .int 99] mkX11_within lkX11_383 rfl (Nat.le_of_ble_eq_true rfl) (Nat.le_of_ble_eq_true rfl) (Nat.le_of_ble_eq_true rfl) (Nat.le_of_ble_eq_true rfl) rfl rfl dX11_two_10 rfl (c_X11_within (fun a10 b10 => ?_) (fun a10 => ?_))
  · refine Kq_i (k' := 0) (sl' := 0) rfl rfl ?_
    rw [ckW_y a10 b10] at hq
    obtain ⟨v, hv, rfl⟩ := in_nI (n := 99) (by decide) a10 b10
    refine V_if_eq 39 16 rfl dX11_two_13 rfl (fun c13 => absurd c13 (by decide)) (fun c13 => ?_)
    refine V_iload_n 17 2 rfl rfl dX11_two_16 rfl ?_
    refine V_iconst 18 (0) rfl dX11_two_17 rfl ?_
    refine V_bipush 20 (99) rfl dX11_two_18 rfl ?_
    refine V_callS (K' := 0) (S' := 0) 23 3 [.int y, .int 0, .int 99] mkX11_within lkX11_383 rfl (Nat.le_of_ble_eq_true rfl) (Nat.le_of_ble_eq_true rfl) (Nat.le_of_ble_eq_true rfl) (Nat.le_of_ble_eq_true rfl) rfl rfl dX11_two_20 rfl (c_X11_within (fun a20 b20 => ?_) (fun a20 => ?_))
    · refine Kq_i (k' := 0) (sl' := 0) rfl rfl ?_
      rw [ckW_y a20 b20] at hq
      refine V_if_eq 39 26 rfl dX11_two_23 rfl (fun c23 => absurd c23 (by decide)) (fun c23 => ?_)
      refine V_iload_n 27 3 rfl rfl dX11_two_26 rfl ?_
      refine V_iconst 28 (0) rfl dX11_two_27 rfl ?_
      refine V_iconst 29 (2) rfl dX11_two_28 rfl ?_
      refine V_callS (K' := 0) (S' := 0) 32 3 [.int z, .int 0, .int 2] mkX11_within lkX11_383 rfl (Nat.le_of_ble_eq_true rfl) (Nat.le_of_ble_eq_true rfl) (Nat.le_of_ble_eq_true rfl) (Nat.le_of_ble_eq_true rfl) rfl rfl dX11_two_29 rfl (c_X11_within (fun a29 b29 => ?_) (fun a29 => ?_))
      · refine Kq_i (k' := 0) (sl' := 0) rfl rfl ?_
        rw [ckW_y a29 b29] at hq
        obtain ⟨j, hj, rfl⟩ := in_nI (n := 2) (by decide) a29 b29
        refine V_if_eq 39 35 rfl dX11_two_32 rfl (fun c32 => absurd c32 (by decide)) (fun c32 => ?_)
        refine V_iconst 36 (1) rfl dX11_two_35 rfl ?_
        refine V_goto 40 rfl dX11_two_36 ?_
        refine V_iconst 41 (1) rfl dX11_two_40 rfl ?_
        refine V_iconst 42 (1) rfl dX11_two_41 rfl ?_
        refine V_callV (K' := 0) (S' := 0) 45 69 11 3 [.int 1, .int 1, .int 1] mkX11_may lkX11_216 (by decide) rfl rfl (by decide) rfl (Nat.le_of_ble_eq_true rfl) (Nat.le_of_ble_eq_true rfl) (Nat.le_of_ble_eq_true rfl) (Nat.le_of_ble_eq_true rfl) rfl rfl dX11_two_42 rfl (c_X11_may (cd := 1) (kd := 1) hRM (by decide) (by decide) (by decide) ht (fun _ => ?_) (fun e => absurd e (by decide)))
        refine Kq_i (k' := 0) (sl' := 0) rfl rfl ?_
        refine V_if_ne 50 48 rfl dX11_two_45 rfl (fun c45 => ?_) (fun c45 => absurd c45 (by decide))
        rw [nI_clamp (show j < 2 ^ 31 by omega)] at hq
        rcases (show j = 0 ∨ j = 1 ∨ j = 2 by omega) with rfl | rfl | rfl
        · by_cases v0 : v = 0
          · rw [show twF (nI v) 0 = 4 from by show (if _ then _ else _) = _; rw [if_pos (by rw [v0]; rfl)]] at hq
            show V _ _ _ _ _ _ _ _ [(0, rf G 69), (1, .int (nI v)), (2, .int y), (3, .int 0)] [] _ _ _ _ _
            refine V_iconst 51 (0) rfl dX11_two_50 rfl ?_
            refine V_istore 53 [(4, .int 0), (0, rf G 69), (1, .int (nI v)), (2, .int y), (3, .int 0)] (by decide) rfl dX11_two_51 rfl ?_
            refine V_iconst 54 (-1) rfl dX11_two_53 rfl ?_
            refine V_istore 56 [(5, .int (-1)), (4, .int 0), (0, rf G 69), (1, .int (nI v)), (2, .int y), (3, .int 0)] (by decide) rfl dX11_two_54 rfl ?_
            refine V_iconst 57 (0) rfl dX11_two_56 rfl ?_
            refine V_istore 59 [(6, .int 0), (5, .int (-1)), (4, .int 0), (0, rf G 69), (1, .int (nI v)), (2, .int y), (3, .int 0)] (by decide) rfl dX11_two_57 rfl ?_
            refine V_iload 61 0 rfl dX11_two_59 rfl ?_
            refine V_iconst 62 (4) rfl dX11_two_61 rfl ?_
            refine V_icmp_ge 156 65 rfl dX11_two_62 rfl (fun c62 => absurd c62 (by decide)) (fun c62 => ?_)
            refine V_iload 67 0 rfl dX11_two_65 rfl ?_
            refine V_iconst 68 (2) rfl dX11_two_67 rfl ?_
            refine V_idiv 69 (by decide) dX11_two_68 rfl ?_
            refine V_rw (show _ = (0 : Int32) from by decide) ?_
            refine V_istore 71 [(7, .int 0), (6, .int 0), (5, .int (-1)), (4, .int 0), (0, rf G 69), (1, .int (nI v)), (2, .int y), (3, .int 0)] (by decide) rfl dX11_two_69 rfl ?_
            refine V_iload 73 1 rfl dX11_two_71 rfl ?_
            refine V_iconst 74 (2) rfl dX11_two_73 rfl ?_
            refine V_irem 75 (by decide) dX11_two_74 rfl ?_
            refine V_rw (show _ = (0 : Int32) from by decide) ?_
            refine V_istore 77 [(8, .int 0), (7, .int 0), (6, .int 0), (5, .int (-1)), (4, .int 0), (0, rf G 69), (1, .int (nI v)), (2, .int y), (3, .int 0)] (by decide) rfl dX11_two_75 rfl ?_
            refine V_iconst 78 (1) rfl dX11_two_77 rfl ?_
            refine V_iload 80 1 rfl dX11_two_78 rfl ?_
            refine V_isub 81 dX11_two_80 rfl ?_
            refine V_rw (show _ = (1 : Int32) from by decide) ?_
            refine V_iload 83 0 rfl dX11_two_81 rfl ?_
            refine V_iload_n 84 6 rfl rfl dX11_two_83 rfl ?_
            refine V_iload_n 85 7 rfl rfl dX11_two_84 rfl ?_
            refine V_callS (K' := 0) (S' := 0) 88 4 [.int 1, .int 0, .int (nI v), .int y] mkX11_hasBy lkX11_436 rfl (Nat.le_of_ble_eq_true rfl) (Nat.le_of_ble_eq_true rfl) (Nat.le_of_ble_eq_true rfl) (Nat.le_of_ble_eq_true rfl) rfl rfl dX11_two_85 rfl (c_X11_hasBy_10 ?_)
            rw [show haF 1 0 (nI v) y = nI v / 2 from rfl]
            refine Kq_i (k' := 0) (sl' := 0) rfl rfl ?_
            refine V_iload 90 1 rfl dX11_two_88 rfl ?_
            refine V_iload 92 0 rfl dX11_two_90 rfl ?_
            refine V_iload_n 93 6 rfl rfl dX11_two_92 rfl ?_
            refine V_iload_n 94 7 rfl rfl dX11_two_93 rfl ?_
            refine V_callS (K' := 0) (S' := 0) 97 4 [.int 0, .int 0, .int (nI v), .int y] mkX11_hasBy lkX11_436 rfl (Nat.le_of_ble_eq_true rfl) (Nat.le_of_ble_eq_true rfl) (Nat.le_of_ble_eq_true rfl) (Nat.le_of_ble_eq_true rfl) rfl rfl dX11_two_94 rfl (c_X11_hasBy_00 ?_)
            rw [show haF 0 0 (nI v) y = nI v from rfl]
            refine Kq_i (k' := 0) (sl' := 0) rfl rfl ?_
            refine V_icmp_gt 150 100 rfl dX11_two_97 rfl (fun c97 => absurd c97 (half_le v hv)) (fun c97 => ?_)
            refine V_iconst 101 (1) rfl dX11_two_100 rfl ?_
            refine V_iload 103 0 rfl dX11_two_101 rfl ?_
            refine V_isub 104 dX11_two_103 rfl ?_
            refine V_rw (show _ = (1 : Int32) from by decide) ?_
            refine V_iload 106 1 rfl dX11_two_104 rfl ?_
            refine V_iload_n 107 6 rfl rfl dX11_two_106 rfl ?_
            refine V_iload_n 108 7 rfl rfl dX11_two_107 rfl ?_
            refine V_callS (K' := 0) (S' := 0) 111 4 [.int 1, .int 0, .int (nI v), .int y] mkX11_hasBy lkX11_436 rfl (Nat.le_of_ble_eq_true rfl) (Nat.le_of_ble_eq_true rfl) (Nat.le_of_ble_eq_true rfl) (Nat.le_of_ble_eq_true rfl) rfl rfl dX11_two_108 rfl (c_X11_hasBy_10 ?_)
            rw [show haF 1 0 (nI v) y = nI v / 2 from rfl]
            refine Kq_i (k' := 0) (sl' := 0) rfl rfl ?_
            refine V_iload 113 0 rfl dX11_two_111 rfl ?_
            refine V_iload 115 1 rfl dX11_two_113 rfl ?_
            refine V_iload_n 116 6 rfl rfl dX11_two_115 rfl ?_
            refine V_iload_n 117 7 rfl rfl dX11_two_116 rfl ?_
            refine V_callS (K' := 0) (S' := 0) 120 4 [.int 0, .int 0, .int (nI v), .int y] mkX11_hasBy lkX11_436 rfl (Nat.le_of_ble_eq_true rfl) (Nat.le_of_ble_eq_true rfl) (Nat.le_of_ble_eq_true rfl) (Nat.le_of_ble_eq_true rfl) rfl rfl dX11_two_117 rfl (c_X11_hasBy_00 ?_)
            rw [show haF 0 0 (nI v) y = nI v from rfl]
            refine Kq_i (k' := 0) (sl' := 0) rfl rfl ?_
            refine V_icmp_le 126 123 rfl dX11_two_120 rfl (fun c120 => ?_) (fun c120 => absurd (Int32.not_lt.mp (half_le v hv)) c120)
            refine V_iinc 129 4 rfl 1 [(4, .int 1), (8, .int 0), (7, .int 0), (6, .int 0), (5, .int (-1)), (0, rf G 69), (1, .int (nI v)), (2, .int y), (3, .int 0)] (by decide) (by decide) rfl dX11_two_126 rfl ?_
            refine V_iload 131 4 rfl dX11_two_129 rfl ?_
            refine V_iconst 132 (-1) rfl dX11_two_131 rfl ?_
            refine V_icmp_ne 146 135 rfl dX11_two_132 rfl (fun c132 => absurd c132 (by decide)) (fun c132 => ?_)
            refine V_bipush 137 (10) rfl dX11_two_135 rfl ?_
            refine V_iload 139 2 rfl dX11_two_137 rfl ?_
            refine V_imul 140 dX11_two_139 rfl ?_
            refine V_rw (show _ = (0 : Int32) from by decide) ?_
            refine V_iload 142 1 rfl dX11_two_140 rfl ?_
            refine V_iadd 143 dX11_two_142 rfl ?_
            refine V_rw (show _ = (0 : Int32) from by decide) ?_
            refine V_goto 148 rfl dX11_two_143 ?_
            refine V_istore 150 [(5, .int 0), (4, .int 1), (8, .int 0), (7, .int 0), (6, .int 0), (0, rf G 69), (1, .int (nI v)), (2, .int y), (3, .int 0)] (by decide) rfl dX11_two_148 rfl ?_
            refine V_iinc 153 4 rfl 1 [(6, .int 1), (5, .int 0), (4, .int 1), (8, .int 0), (7, .int 0), (0, rf G 69), (1, .int (nI v)), (2, .int y), (3, .int 0)] (by decide) (by decide) rfl dX11_two_150 rfl ?_
            refine V_goto 59 rfl dX11_two_153 ?_
            refine V_iload 61 0 rfl dX11_two_59 rfl ?_
            refine V_iconst 62 (4) rfl dX11_two_61 rfl ?_
            refine V_icmp_ge 156 65 rfl dX11_two_62 rfl (fun c62 => absurd c62 (by decide)) (fun c62 => ?_)
            refine V_iload 67 0 rfl dX11_two_65 rfl ?_
            refine V_iconst 68 (2) rfl dX11_two_67 rfl ?_
            refine V_idiv 69 (by decide) dX11_two_68 rfl ?_
            refine V_rw (show _ = (0 : Int32) from by decide) ?_
            refine V_istore 71 [(7, .int 0), (6, .int 1), (5, .int 0), (4, .int 1), (8, .int 0), (0, rf G 69), (1, .int (nI v)), (2, .int y), (3, .int 0)] (by decide) rfl dX11_two_69 rfl ?_
            refine V_iload 73 1 rfl dX11_two_71 rfl ?_
            refine V_iconst 74 (2) rfl dX11_two_73 rfl ?_
            refine V_irem 75 (by decide) dX11_two_74 rfl ?_
            refine V_rw (show _ = (1 : Int32) from by decide) ?_
            refine V_istore 77 [(8, .int 1), (7, .int 0), (6, .int 1), (5, .int 0), (4, .int 1), (0, rf G 69), (1, .int (nI v)), (2, .int y), (3, .int 0)] (by decide) rfl dX11_two_75 rfl ?_
            refine V_iconst 78 (1) rfl dX11_two_77 rfl ?_
            refine V_iload 80 1 rfl dX11_two_78 rfl ?_
            refine V_isub 81 dX11_two_80 rfl ?_
            refine V_rw (show _ = (1 : Int32) from by decide) ?_
            refine V_iload 83 0 rfl dX11_two_81 rfl ?_
            refine V_iload_n 84 6 rfl rfl dX11_two_83 rfl ?_
            refine V_iload_n 85 7 rfl rfl dX11_two_84 rfl ?_
            refine V_callS (K' := 0) (S' := 0) 88 4 [.int 1, .int 1, .int (nI v), .int y] mkX11_hasBy lkX11_436 rfl (Nat.le_of_ble_eq_true rfl) (Nat.le_of_ble_eq_true rfl) (Nat.le_of_ble_eq_true rfl) (Nat.le_of_ble_eq_true rfl) rfl rfl dX11_two_85 rfl (c_X11_hasBy_11 ?_)
            rw [show haF 1 1 (nI v) y = y from rfl]
            refine Kq_i (k' := 0) (sl' := 0) rfl rfl ?_
            refine V_iload 90 1 rfl dX11_two_88 rfl ?_
            refine V_iload 92 0 rfl dX11_two_90 rfl ?_
            refine V_iload_n 93 6 rfl rfl dX11_two_92 rfl ?_
            refine V_iload_n 94 7 rfl rfl dX11_two_93 rfl ?_
            refine V_callS (K' := 0) (S' := 0) 97 4 [.int 0, .int 1, .int (nI v), .int y] mkX11_hasBy lkX11_436 rfl (Nat.le_of_ble_eq_true rfl) (Nat.le_of_ble_eq_true rfl) (Nat.le_of_ble_eq_true rfl) (Nat.le_of_ble_eq_true rfl) rfl rfl dX11_two_94 rfl (c_X11_hasBy_01 ?_)
            rw [show haF 0 1 (nI v) y = y from rfl]
            refine Kq_i (k' := 0) (sl' := 0) rfl rfl ?_
            refine V_icmp_gt 150 100 rfl dX11_two_97 rfl (fun c97 => absurd c97 (Int32.lt_irrefl)) (fun c97 => ?_)
            refine V_iconst 101 (1) rfl dX11_two_100 rfl ?_
            refine V_iload 103 0 rfl dX11_two_101 rfl ?_
            refine V_isub 104 dX11_two_103 rfl ?_
            refine V_rw (show _ = (0 : Int32) from by decide) ?_
            refine V_iload 106 1 rfl dX11_two_104 rfl ?_
            refine V_iload_n 107 6 rfl rfl dX11_two_106 rfl ?_
            refine V_iload_n 108 7 rfl rfl dX11_two_107 rfl ?_
            refine V_callS (K' := 0) (S' := 0) 111 4 [.int 0, .int 0, .int (nI v), .int y] mkX11_hasBy lkX11_436 rfl (Nat.le_of_ble_eq_true rfl) (Nat.le_of_ble_eq_true rfl) (Nat.le_of_ble_eq_true rfl) (Nat.le_of_ble_eq_true rfl) rfl rfl dX11_two_108 rfl (c_X11_hasBy_00 ?_)
            rw [show haF 0 0 (nI v) y = nI v from rfl]
            refine Kq_i (k' := 0) (sl' := 0) rfl rfl ?_
            refine V_iload 113 0 rfl dX11_two_111 rfl ?_
            refine V_iload 115 1 rfl dX11_two_113 rfl ?_
            refine V_iload_n 116 6 rfl rfl dX11_two_115 rfl ?_
            refine V_iload_n 117 7 rfl rfl dX11_two_116 rfl ?_
            refine V_callS (K' := 0) (S' := 0) 120 4 [.int 1, .int 0, .int (nI v), .int y] mkX11_hasBy lkX11_436 rfl (Nat.le_of_ble_eq_true rfl) (Nat.le_of_ble_eq_true rfl) (Nat.le_of_ble_eq_true rfl) (Nat.le_of_ble_eq_true rfl) rfl rfl dX11_two_117 rfl (c_X11_hasBy_10 ?_)
            rw [show haF 1 0 (nI v) y = nI v / 2 from rfl]
            refine Kq_i (k' := 0) (sl' := 0) rfl rfl ?_
            refine V_icmp_le 126 123 rfl dX11_two_120 rfl (fun c120 => ?_) (fun c120 => absurd (by rw [v0]; decide) c120)
            refine V_iinc 129 4 rfl 2 [(4, .int 2), (8, .int 1), (7, .int 0), (6, .int 1), (5, .int 0), (0, rf G 69), (1, .int (nI v)), (2, .int y), (3, .int 0)] (by decide) (by decide) rfl dX11_two_126 rfl ?_
            refine V_iload 131 4 rfl dX11_two_129 rfl ?_
            refine V_iconst 132 (-1) rfl dX11_two_131 rfl ?_
            refine V_icmp_ne 146 135 rfl dX11_two_132 rfl (fun c132 => ?_) (fun c132 => absurd c132 (by decide))
            refine V_iload 148 4 rfl dX11_two_146 rfl ?_
            refine V_istore 150 [(5, .int 0), (4, .int 2), (8, .int 1), (7, .int 0), (6, .int 1), (0, rf G 69), (1, .int (nI v)), (2, .int y), (3, .int 0)] (by decide) rfl dX11_two_148 rfl ?_
            refine V_iinc 153 4 rfl 2 [(6, .int 2), (5, .int 0), (4, .int 2), (8, .int 1), (7, .int 0), (0, rf G 69), (1, .int (nI v)), (2, .int y), (3, .int 0)] (by decide) (by decide) rfl dX11_two_150 rfl ?_
            refine V_goto 59 rfl dX11_two_153 ?_
            refine V_iload 61 0 rfl dX11_two_59 rfl ?_
            refine V_iconst 62 (4) rfl dX11_two_61 rfl ?_
            refine V_icmp_ge 156 65 rfl dX11_two_62 rfl (fun c62 => absurd c62 (by decide)) (fun c62 => ?_)
            refine V_iload 67 0 rfl dX11_two_65 rfl ?_
            refine V_iconst 68 (2) rfl dX11_two_67 rfl ?_
            refine V_idiv 69 (by decide) dX11_two_68 rfl ?_
            refine V_rw (show _ = (1 : Int32) from by decide) ?_
            refine V_istore 71 [(7, .int 1), (6, .int 2), (5, .int 0), (4, .int 2), (8, .int 1), (0, rf G 69), (1, .int (nI v)), (2, .int y), (3, .int 0)] (by decide) rfl dX11_two_69 rfl ?_
            refine V_iload 73 1 rfl dX11_two_71 rfl ?_
            refine V_iconst 74 (2) rfl dX11_two_73 rfl ?_
            refine V_irem 75 (by decide) dX11_two_74 rfl ?_
            refine V_rw (show _ = (0 : Int32) from by decide) ?_
            refine V_istore 77 [(8, .int 0), (7, .int 1), (6, .int 2), (5, .int 0), (4, .int 2), (0, rf G 69), (1, .int (nI v)), (2, .int y), (3, .int 0)] (by decide) rfl dX11_two_75 rfl ?_
            refine V_iconst 78 (1) rfl dX11_two_77 rfl ?_
            refine V_iload 80 1 rfl dX11_two_78 rfl ?_
            refine V_isub 81 dX11_two_80 rfl ?_
            refine V_rw (show _ = (0 : Int32) from by decide) ?_
            refine V_iload 83 0 rfl dX11_two_81 rfl ?_
            refine V_iload_n 84 6 rfl rfl dX11_two_83 rfl ?_
            refine V_iload_n 85 7 rfl rfl dX11_two_84 rfl ?_
            refine V_callS (K' := 0) (S' := 0) 88 4 [.int 0, .int 0, .int (nI v), .int y] mkX11_hasBy lkX11_436 rfl (Nat.le_of_ble_eq_true rfl) (Nat.le_of_ble_eq_true rfl) (Nat.le_of_ble_eq_true rfl) (Nat.le_of_ble_eq_true rfl) rfl rfl dX11_two_85 rfl (c_X11_hasBy_00 ?_)
            rw [show haF 0 0 (nI v) y = nI v from rfl]
            refine Kq_i (k' := 0) (sl' := 0) rfl rfl ?_
            refine V_iload 90 1 rfl dX11_two_88 rfl ?_
            refine V_iload 92 0 rfl dX11_two_90 rfl ?_
            refine V_iload_n 93 6 rfl rfl dX11_two_92 rfl ?_
            refine V_iload_n 94 7 rfl rfl dX11_two_93 rfl ?_
            refine V_callS (K' := 0) (S' := 0) 97 4 [.int 1, .int 0, .int (nI v), .int y] mkX11_hasBy lkX11_436 rfl (Nat.le_of_ble_eq_true rfl) (Nat.le_of_ble_eq_true rfl) (Nat.le_of_ble_eq_true rfl) (Nat.le_of_ble_eq_true rfl) rfl rfl dX11_two_94 rfl (c_X11_hasBy_10 ?_)
            rw [show haF 1 0 (nI v) y = nI v / 2 from rfl]
            refine Kq_i (k' := 0) (sl' := 0) rfl rfl ?_
            refine V_icmp_gt 150 100 rfl dX11_two_97 rfl (fun c97 => absurd c97 (by rw [v0]; decide)) (fun c97 => ?_)
            refine V_iconst 101 (1) rfl dX11_two_100 rfl ?_
            refine V_iload 103 0 rfl dX11_two_101 rfl ?_
            refine V_isub 104 dX11_two_103 rfl ?_
            refine V_rw (show _ = (1 : Int32) from by decide) ?_
            refine V_iload 106 1 rfl dX11_two_104 rfl ?_
            refine V_iload_n 107 6 rfl rfl dX11_two_106 rfl ?_
            refine V_iload_n 108 7 rfl rfl dX11_two_107 rfl ?_
            refine V_callS (K' := 0) (S' := 0) 111 4 [.int 1, .int 1, .int (nI v), .int y] mkX11_hasBy lkX11_436 rfl (Nat.le_of_ble_eq_true rfl) (Nat.le_of_ble_eq_true rfl) (Nat.le_of_ble_eq_true rfl) (Nat.le_of_ble_eq_true rfl) rfl rfl dX11_two_108 rfl (c_X11_hasBy_11 ?_)
            rw [show haF 1 1 (nI v) y = y from rfl]
            refine Kq_i (k' := 0) (sl' := 0) rfl rfl ?_
            refine V_iload 113 0 rfl dX11_two_111 rfl ?_
            refine V_iload 115 1 rfl dX11_two_113 rfl ?_
            refine V_iload_n 116 6 rfl rfl dX11_two_115 rfl ?_
            refine V_iload_n 117 7 rfl rfl dX11_two_116 rfl ?_
            refine V_callS (K' := 0) (S' := 0) 120 4 [.int 0, .int 1, .int (nI v), .int y] mkX11_hasBy lkX11_436 rfl (Nat.le_of_ble_eq_true rfl) (Nat.le_of_ble_eq_true rfl) (Nat.le_of_ble_eq_true rfl) (Nat.le_of_ble_eq_true rfl) rfl rfl dX11_two_117 rfl (c_X11_hasBy_01 ?_)
            rw [show haF 0 1 (nI v) y = y from rfl]
            refine Kq_i (k' := 0) (sl' := 0) rfl rfl ?_
            refine V_icmp_le 126 123 rfl dX11_two_120 rfl (fun c120 => ?_) (fun c120 => absurd (Int32.le_refl _) c120)
            refine V_iinc 129 4 rfl 3 [(4, .int 3), (8, .int 0), (7, .int 1), (6, .int 2), (5, .int 0), (0, rf G 69), (1, .int (nI v)), (2, .int y), (3, .int 0)] (by decide) (by decide) rfl dX11_two_126 rfl ?_
            refine V_iload 131 4 rfl dX11_two_129 rfl ?_
            refine V_iconst 132 (-1) rfl dX11_two_131 rfl ?_
            refine V_icmp_ne 146 135 rfl dX11_two_132 rfl (fun c132 => ?_) (fun c132 => absurd c132 (by decide))
            refine V_iload 148 4 rfl dX11_two_146 rfl ?_
            refine V_istore 150 [(5, .int 0), (4, .int 3), (8, .int 0), (7, .int 1), (6, .int 2), (0, rf G 69), (1, .int (nI v)), (2, .int y), (3, .int 0)] (by decide) rfl dX11_two_148 rfl ?_
            refine V_iinc 153 4 rfl 3 [(6, .int 3), (5, .int 0), (4, .int 3), (8, .int 0), (7, .int 1), (0, rf G 69), (1, .int (nI v)), (2, .int y), (3, .int 0)] (by decide) (by decide) rfl dX11_two_150 rfl ?_
            refine V_goto 59 rfl dX11_two_153 ?_
            refine V_iload 61 0 rfl dX11_two_59 rfl ?_
            refine V_iconst 62 (4) rfl dX11_two_61 rfl ?_
            refine V_icmp_ge 156 65 rfl dX11_two_62 rfl (fun c62 => absurd c62 (by decide)) (fun c62 => ?_)
            refine V_iload 67 0 rfl dX11_two_65 rfl ?_
            refine V_iconst 68 (2) rfl dX11_two_67 rfl ?_
            refine V_idiv 69 (by decide) dX11_two_68 rfl ?_
            refine V_rw (show _ = (1 : Int32) from by decide) ?_
            refine V_istore 71 [(7, .int 1), (6, .int 3), (5, .int 0), (4, .int 3), (8, .int 0), (0, rf G 69), (1, .int (nI v)), (2, .int y), (3, .int 0)] (by decide) rfl dX11_two_69 rfl ?_
            refine V_iload 73 1 rfl dX11_two_71 rfl ?_
            refine V_iconst 74 (2) rfl dX11_two_73 rfl ?_
            refine V_irem 75 (by decide) dX11_two_74 rfl ?_
            refine V_rw (show _ = (1 : Int32) from by decide) ?_
            refine V_istore 77 [(8, .int 1), (7, .int 1), (6, .int 3), (5, .int 0), (4, .int 3), (0, rf G 69), (1, .int (nI v)), (2, .int y), (3, .int 0)] (by decide) rfl dX11_two_75 rfl ?_
            refine V_iconst 78 (1) rfl dX11_two_77 rfl ?_
            refine V_iload 80 1 rfl dX11_two_78 rfl ?_
            refine V_isub 81 dX11_two_80 rfl ?_
            refine V_rw (show _ = (0 : Int32) from by decide) ?_
            refine V_iload 83 0 rfl dX11_two_81 rfl ?_
            refine V_iload_n 84 6 rfl rfl dX11_two_83 rfl ?_
            refine V_iload_n 85 7 rfl rfl dX11_two_84 rfl ?_
            refine V_callS (K' := 0) (S' := 0) 88 4 [.int 0, .int 1, .int (nI v), .int y] mkX11_hasBy lkX11_436 rfl (Nat.le_of_ble_eq_true rfl) (Nat.le_of_ble_eq_true rfl) (Nat.le_of_ble_eq_true rfl) (Nat.le_of_ble_eq_true rfl) rfl rfl dX11_two_85 rfl (c_X11_hasBy_01 ?_)
            rw [show haF 0 1 (nI v) y = y from rfl]
            refine Kq_i (k' := 0) (sl' := 0) rfl rfl ?_
            refine V_iload 90 1 rfl dX11_two_88 rfl ?_
            refine V_iload 92 0 rfl dX11_two_90 rfl ?_
            refine V_iload_n 93 6 rfl rfl dX11_two_92 rfl ?_
            refine V_iload_n 94 7 rfl rfl dX11_two_93 rfl ?_
            refine V_callS (K' := 0) (S' := 0) 97 4 [.int 1, .int 1, .int (nI v), .int y] mkX11_hasBy lkX11_436 rfl (Nat.le_of_ble_eq_true rfl) (Nat.le_of_ble_eq_true rfl) (Nat.le_of_ble_eq_true rfl) (Nat.le_of_ble_eq_true rfl) rfl rfl dX11_two_94 rfl (c_X11_hasBy_11 ?_)
            rw [show haF 1 1 (nI v) y = y from rfl]
            refine Kq_i (k' := 0) (sl' := 0) rfl rfl ?_
            refine V_icmp_gt 150 100 rfl dX11_two_97 rfl (fun c97 => absurd c97 (Int32.lt_irrefl)) (fun c97 => ?_)
            refine V_iconst 101 (1) rfl dX11_two_100 rfl ?_
            refine V_iload 103 0 rfl dX11_two_101 rfl ?_
            refine V_isub 104 dX11_two_103 rfl ?_
            refine V_rw (show _ = (0 : Int32) from by decide) ?_
            refine V_iload 106 1 rfl dX11_two_104 rfl ?_
            refine V_iload_n 107 6 rfl rfl dX11_two_106 rfl ?_
            refine V_iload_n 108 7 rfl rfl dX11_two_107 rfl ?_
            refine V_callS (K' := 0) (S' := 0) 111 4 [.int 0, .int 1, .int (nI v), .int y] mkX11_hasBy lkX11_436 rfl (Nat.le_of_ble_eq_true rfl) (Nat.le_of_ble_eq_true rfl) (Nat.le_of_ble_eq_true rfl) (Nat.le_of_ble_eq_true rfl) rfl rfl dX11_two_108 rfl (c_X11_hasBy_01 ?_)
            rw [show haF 0 1 (nI v) y = y from rfl]
            refine Kq_i (k' := 0) (sl' := 0) rfl rfl ?_
            refine V_iload 113 0 rfl dX11_two_111 rfl ?_
            refine V_iload 115 1 rfl dX11_two_113 rfl ?_
            refine V_iload_n 116 6 rfl rfl dX11_two_115 rfl ?_
            refine V_iload_n 117 7 rfl rfl dX11_two_116 rfl ?_
            refine V_callS (K' := 0) (S' := 0) 120 4 [.int 1, .int 1, .int (nI v), .int y] mkX11_hasBy lkX11_436 rfl (Nat.le_of_ble_eq_true rfl) (Nat.le_of_ble_eq_true rfl) (Nat.le_of_ble_eq_true rfl) (Nat.le_of_ble_eq_true rfl) rfl rfl dX11_two_117 rfl (c_X11_hasBy_11 ?_)
            rw [show haF 1 1 (nI v) y = y from rfl]
            refine Kq_i (k' := 0) (sl' := 0) rfl rfl ?_
            refine V_icmp_le 126 123 rfl dX11_two_120 rfl (fun c120 => ?_) (fun c120 => absurd (Int32.le_refl _) c120)
            refine V_iinc 129 4 rfl 4 [(4, .int 4), (8, .int 1), (7, .int 1), (6, .int 3), (5, .int 0), (0, rf G 69), (1, .int (nI v)), (2, .int y), (3, .int 0)] (by decide) (by decide) rfl dX11_two_126 rfl ?_
            refine V_iload 131 4 rfl dX11_two_129 rfl ?_
            refine V_iconst 132 (-1) rfl dX11_two_131 rfl ?_
            refine V_icmp_ne 146 135 rfl dX11_two_132 rfl (fun c132 => ?_) (fun c132 => absurd c132 (by decide))
            refine V_iload 148 4 rfl dX11_two_146 rfl ?_
            refine V_istore 150 [(5, .int 0), (4, .int 4), (8, .int 1), (7, .int 1), (6, .int 3), (0, rf G 69), (1, .int (nI v)), (2, .int y), (3, .int 0)] (by decide) rfl dX11_two_148 rfl ?_
            refine V_iinc 153 4 rfl 4 [(6, .int 4), (5, .int 0), (4, .int 4), (8, .int 1), (7, .int 1), (0, rf G 69), (1, .int (nI v)), (2, .int y), (3, .int 0)] (by decide) (by decide) rfl dX11_two_150 rfl ?_
            refine V_goto 59 rfl dX11_two_153 ?_
            refine V_iload 61 0 rfl dX11_two_59 rfl ?_
            refine V_iconst 62 (4) rfl dX11_two_61 rfl ?_
            refine V_icmp_ge 156 65 rfl dX11_two_62 rfl (fun c62 => ?_) (fun c62 => absurd c62 (by decide))
            refine V_iload_n 157 8 rfl rfl dX11_two_156 rfl ?_
            refine V_if_ne 165 160 rfl dX11_two_157 rfl (fun c157 => absurd c157 (by decide)) (fun c157 => ?_)
            refine V_iload 162 2 rfl dX11_two_160 rfl ?_
            refine V_goto 216 rfl dX11_two_162 ?_
            refine V_ret_i rfl rfl (Nat.le_of_ble_eq_true rfl) (fun h => absurd h (by decide)) (Nat.le_of_ble_eq_true rfl) (hq I0 hz) dX11_two_216
          · rw [show twF (nI v) 0 = 2 from by show (if _ then _ else _) = _; rw [if_neg (tw_n hv v0)]] at hq
            show V _ _ _ _ _ _ _ _ [(0, rf G 69), (1, .int (nI v)), (2, .int y), (3, .int 0)] [] _ _ _ _ _
            refine V_iconst 51 (0) rfl dX11_two_50 rfl ?_
            refine V_istore 53 [(4, .int 0), (0, rf G 69), (1, .int (nI v)), (2, .int y), (3, .int 0)] (by decide) rfl dX11_two_51 rfl ?_
            refine V_iconst 54 (-1) rfl dX11_two_53 rfl ?_
            refine V_istore 56 [(5, .int (-1)), (4, .int 0), (0, rf G 69), (1, .int (nI v)), (2, .int y), (3, .int 0)] (by decide) rfl dX11_two_54 rfl ?_
            refine V_iconst 57 (0) rfl dX11_two_56 rfl ?_
            refine V_istore 59 [(6, .int 0), (5, .int (-1)), (4, .int 0), (0, rf G 69), (1, .int (nI v)), (2, .int y), (3, .int 0)] (by decide) rfl dX11_two_57 rfl ?_
            refine V_iload 61 0 rfl dX11_two_59 rfl ?_
            refine V_iconst 62 (4) rfl dX11_two_61 rfl ?_
            refine V_icmp_ge 156 65 rfl dX11_two_62 rfl (fun c62 => absurd c62 (by decide)) (fun c62 => ?_)
            refine V_iload 67 0 rfl dX11_two_65 rfl ?_
            refine V_iconst 68 (2) rfl dX11_two_67 rfl ?_
            refine V_idiv 69 (by decide) dX11_two_68 rfl ?_
            refine V_rw (show _ = (0 : Int32) from by decide) ?_
            refine V_istore 71 [(7, .int 0), (6, .int 0), (5, .int (-1)), (4, .int 0), (0, rf G 69), (1, .int (nI v)), (2, .int y), (3, .int 0)] (by decide) rfl dX11_two_69 rfl ?_
            refine V_iload 73 1 rfl dX11_two_71 rfl ?_
            refine V_iconst 74 (2) rfl dX11_two_73 rfl ?_
            refine V_irem 75 (by decide) dX11_two_74 rfl ?_
            refine V_rw (show _ = (0 : Int32) from by decide) ?_
            refine V_istore 77 [(8, .int 0), (7, .int 0), (6, .int 0), (5, .int (-1)), (4, .int 0), (0, rf G 69), (1, .int (nI v)), (2, .int y), (3, .int 0)] (by decide) rfl dX11_two_75 rfl ?_
            refine V_iconst 78 (1) rfl dX11_two_77 rfl ?_
            refine V_iload 80 1 rfl dX11_two_78 rfl ?_
            refine V_isub 81 dX11_two_80 rfl ?_
            refine V_rw (show _ = (1 : Int32) from by decide) ?_
            refine V_iload 83 0 rfl dX11_two_81 rfl ?_
            refine V_iload_n 84 6 rfl rfl dX11_two_83 rfl ?_
            refine V_iload_n 85 7 rfl rfl dX11_two_84 rfl ?_
            refine V_callS (K' := 0) (S' := 0) 88 4 [.int 1, .int 0, .int (nI v), .int y] mkX11_hasBy lkX11_436 rfl (Nat.le_of_ble_eq_true rfl) (Nat.le_of_ble_eq_true rfl) (Nat.le_of_ble_eq_true rfl) (Nat.le_of_ble_eq_true rfl) rfl rfl dX11_two_85 rfl (c_X11_hasBy_10 ?_)
            rw [show haF 1 0 (nI v) y = nI v / 2 from rfl]
            refine Kq_i (k' := 0) (sl' := 0) rfl rfl ?_
            refine V_iload 90 1 rfl dX11_two_88 rfl ?_
            refine V_iload 92 0 rfl dX11_two_90 rfl ?_
            refine V_iload_n 93 6 rfl rfl dX11_two_92 rfl ?_
            refine V_iload_n 94 7 rfl rfl dX11_two_93 rfl ?_
            refine V_callS (K' := 0) (S' := 0) 97 4 [.int 0, .int 0, .int (nI v), .int y] mkX11_hasBy lkX11_436 rfl (Nat.le_of_ble_eq_true rfl) (Nat.le_of_ble_eq_true rfl) (Nat.le_of_ble_eq_true rfl) (Nat.le_of_ble_eq_true rfl) rfl rfl dX11_two_94 rfl (c_X11_hasBy_00 ?_)
            rw [show haF 0 0 (nI v) y = nI v from rfl]
            refine Kq_i (k' := 0) (sl' := 0) rfl rfl ?_
            refine V_icmp_gt 150 100 rfl dX11_two_97 rfl (fun c97 => absurd c97 (half_le v hv)) (fun c97 => ?_)
            refine V_iconst 101 (1) rfl dX11_two_100 rfl ?_
            refine V_iload 103 0 rfl dX11_two_101 rfl ?_
            refine V_isub 104 dX11_two_103 rfl ?_
            refine V_rw (show _ = (1 : Int32) from by decide) ?_
            refine V_iload 106 1 rfl dX11_two_104 rfl ?_
            refine V_iload_n 107 6 rfl rfl dX11_two_106 rfl ?_
            refine V_iload_n 108 7 rfl rfl dX11_two_107 rfl ?_
            refine V_callS (K' := 0) (S' := 0) 111 4 [.int 1, .int 0, .int (nI v), .int y] mkX11_hasBy lkX11_436 rfl (Nat.le_of_ble_eq_true rfl) (Nat.le_of_ble_eq_true rfl) (Nat.le_of_ble_eq_true rfl) (Nat.le_of_ble_eq_true rfl) rfl rfl dX11_two_108 rfl (c_X11_hasBy_10 ?_)
            rw [show haF 1 0 (nI v) y = nI v / 2 from rfl]
            refine Kq_i (k' := 0) (sl' := 0) rfl rfl ?_
            refine V_iload 113 0 rfl dX11_two_111 rfl ?_
            refine V_iload 115 1 rfl dX11_two_113 rfl ?_
            refine V_iload_n 116 6 rfl rfl dX11_two_115 rfl ?_
            refine V_iload_n 117 7 rfl rfl dX11_two_116 rfl ?_
            refine V_callS (K' := 0) (S' := 0) 120 4 [.int 0, .int 0, .int (nI v), .int y] mkX11_hasBy lkX11_436 rfl (Nat.le_of_ble_eq_true rfl) (Nat.le_of_ble_eq_true rfl) (Nat.le_of_ble_eq_true rfl) (Nat.le_of_ble_eq_true rfl) rfl rfl dX11_two_117 rfl (c_X11_hasBy_00 ?_)
            rw [show haF 0 0 (nI v) y = nI v from rfl]
            refine Kq_i (k' := 0) (sl' := 0) rfl rfl ?_
            refine V_icmp_le 126 123 rfl dX11_two_120 rfl (fun c120 => ?_) (fun c120 => absurd (Int32.not_lt.mp (half_le v hv)) c120)
            refine V_iinc 129 4 rfl 1 [(4, .int 1), (8, .int 0), (7, .int 0), (6, .int 0), (5, .int (-1)), (0, rf G 69), (1, .int (nI v)), (2, .int y), (3, .int 0)] (by decide) (by decide) rfl dX11_two_126 rfl ?_
            refine V_iload 131 4 rfl dX11_two_129 rfl ?_
            refine V_iconst 132 (-1) rfl dX11_two_131 rfl ?_
            refine V_icmp_ne 146 135 rfl dX11_two_132 rfl (fun c132 => absurd c132 (by decide)) (fun c132 => ?_)
            refine V_bipush 137 (10) rfl dX11_two_135 rfl ?_
            refine V_iload 139 2 rfl dX11_two_137 rfl ?_
            refine V_imul 140 dX11_two_139 rfl ?_
            refine V_rw (show _ = (0 : Int32) from by decide) ?_
            refine V_iload 142 1 rfl dX11_two_140 rfl ?_
            refine V_iadd 143 dX11_two_142 rfl ?_
            refine V_rw (show _ = (0 : Int32) from by decide) ?_
            refine V_goto 148 rfl dX11_two_143 ?_
            refine V_istore 150 [(5, .int 0), (4, .int 1), (8, .int 0), (7, .int 0), (6, .int 0), (0, rf G 69), (1, .int (nI v)), (2, .int y), (3, .int 0)] (by decide) rfl dX11_two_148 rfl ?_
            refine V_iinc 153 4 rfl 1 [(6, .int 1), (5, .int 0), (4, .int 1), (8, .int 0), (7, .int 0), (0, rf G 69), (1, .int (nI v)), (2, .int y), (3, .int 0)] (by decide) (by decide) rfl dX11_two_150 rfl ?_
            refine V_goto 59 rfl dX11_two_153 ?_
            refine V_iload 61 0 rfl dX11_two_59 rfl ?_
            refine V_iconst 62 (4) rfl dX11_two_61 rfl ?_
            refine V_icmp_ge 156 65 rfl dX11_two_62 rfl (fun c62 => absurd c62 (by decide)) (fun c62 => ?_)
            refine V_iload 67 0 rfl dX11_two_65 rfl ?_
            refine V_iconst 68 (2) rfl dX11_two_67 rfl ?_
            refine V_idiv 69 (by decide) dX11_two_68 rfl ?_
            refine V_rw (show _ = (0 : Int32) from by decide) ?_
            refine V_istore 71 [(7, .int 0), (6, .int 1), (5, .int 0), (4, .int 1), (8, .int 0), (0, rf G 69), (1, .int (nI v)), (2, .int y), (3, .int 0)] (by decide) rfl dX11_two_69 rfl ?_
            refine V_iload 73 1 rfl dX11_two_71 rfl ?_
            refine V_iconst 74 (2) rfl dX11_two_73 rfl ?_
            refine V_irem 75 (by decide) dX11_two_74 rfl ?_
            refine V_rw (show _ = (1 : Int32) from by decide) ?_
            refine V_istore 77 [(8, .int 1), (7, .int 0), (6, .int 1), (5, .int 0), (4, .int 1), (0, rf G 69), (1, .int (nI v)), (2, .int y), (3, .int 0)] (by decide) rfl dX11_two_75 rfl ?_
            refine V_iconst 78 (1) rfl dX11_two_77 rfl ?_
            refine V_iload 80 1 rfl dX11_two_78 rfl ?_
            refine V_isub 81 dX11_two_80 rfl ?_
            refine V_rw (show _ = (1 : Int32) from by decide) ?_
            refine V_iload 83 0 rfl dX11_two_81 rfl ?_
            refine V_iload_n 84 6 rfl rfl dX11_two_83 rfl ?_
            refine V_iload_n 85 7 rfl rfl dX11_two_84 rfl ?_
            refine V_callS (K' := 0) (S' := 0) 88 4 [.int 1, .int 1, .int (nI v), .int y] mkX11_hasBy lkX11_436 rfl (Nat.le_of_ble_eq_true rfl) (Nat.le_of_ble_eq_true rfl) (Nat.le_of_ble_eq_true rfl) (Nat.le_of_ble_eq_true rfl) rfl rfl dX11_two_85 rfl (c_X11_hasBy_11 ?_)
            rw [show haF 1 1 (nI v) y = y from rfl]
            refine Kq_i (k' := 0) (sl' := 0) rfl rfl ?_
            refine V_iload 90 1 rfl dX11_two_88 rfl ?_
            refine V_iload 92 0 rfl dX11_two_90 rfl ?_
            refine V_iload_n 93 6 rfl rfl dX11_two_92 rfl ?_
            refine V_iload_n 94 7 rfl rfl dX11_two_93 rfl ?_
            refine V_callS (K' := 0) (S' := 0) 97 4 [.int 0, .int 1, .int (nI v), .int y] mkX11_hasBy lkX11_436 rfl (Nat.le_of_ble_eq_true rfl) (Nat.le_of_ble_eq_true rfl) (Nat.le_of_ble_eq_true rfl) (Nat.le_of_ble_eq_true rfl) rfl rfl dX11_two_94 rfl (c_X11_hasBy_01 ?_)
            rw [show haF 0 1 (nI v) y = y from rfl]
            refine Kq_i (k' := 0) (sl' := 0) rfl rfl ?_
            refine V_icmp_gt 150 100 rfl dX11_two_97 rfl (fun c97 => absurd c97 (Int32.lt_irrefl)) (fun c97 => ?_)
            refine V_iconst 101 (1) rfl dX11_two_100 rfl ?_
            refine V_iload 103 0 rfl dX11_two_101 rfl ?_
            refine V_isub 104 dX11_two_103 rfl ?_
            refine V_rw (show _ = (0 : Int32) from by decide) ?_
            refine V_iload 106 1 rfl dX11_two_104 rfl ?_
            refine V_iload_n 107 6 rfl rfl dX11_two_106 rfl ?_
            refine V_iload_n 108 7 rfl rfl dX11_two_107 rfl ?_
            refine V_callS (K' := 0) (S' := 0) 111 4 [.int 0, .int 0, .int (nI v), .int y] mkX11_hasBy lkX11_436 rfl (Nat.le_of_ble_eq_true rfl) (Nat.le_of_ble_eq_true rfl) (Nat.le_of_ble_eq_true rfl) (Nat.le_of_ble_eq_true rfl) rfl rfl dX11_two_108 rfl (c_X11_hasBy_00 ?_)
            rw [show haF 0 0 (nI v) y = nI v from rfl]
            refine Kq_i (k' := 0) (sl' := 0) rfl rfl ?_
            refine V_iload 113 0 rfl dX11_two_111 rfl ?_
            refine V_iload 115 1 rfl dX11_two_113 rfl ?_
            refine V_iload_n 116 6 rfl rfl dX11_two_115 rfl ?_
            refine V_iload_n 117 7 rfl rfl dX11_two_116 rfl ?_
            refine V_callS (K' := 0) (S' := 0) 120 4 [.int 1, .int 0, .int (nI v), .int y] mkX11_hasBy lkX11_436 rfl (Nat.le_of_ble_eq_true rfl) (Nat.le_of_ble_eq_true rfl) (Nat.le_of_ble_eq_true rfl) (Nat.le_of_ble_eq_true rfl) rfl rfl dX11_two_117 rfl (c_X11_hasBy_10 ?_)
            rw [show haF 1 0 (nI v) y = nI v / 2 from rfl]
            refine Kq_i (k' := 0) (sl' := 0) rfl rfl ?_
            refine V_icmp_le 126 123 rfl dX11_two_120 rfl (fun c120 => absurd (half_lt v hv v0) (Int32.not_lt.mpr c120)) (fun c120 => ?_)
            refine V_goto 150 rfl dX11_two_123 ?_
            refine V_iinc 153 2 rfl 2 [(6, .int 2), (8, .int 1), (7, .int 0), (5, .int 0), (4, .int 1), (0, rf G 69), (1, .int (nI v)), (2, .int y), (3, .int 0)] (by decide) (by decide) rfl dX11_two_150 rfl ?_
            refine V_goto 59 rfl dX11_two_153 ?_
            refine V_iload 61 0 rfl dX11_two_59 rfl ?_
            refine V_iconst 62 (4) rfl dX11_two_61 rfl ?_
            refine V_icmp_ge 156 65 rfl dX11_two_62 rfl (fun c62 => absurd c62 (by decide)) (fun c62 => ?_)
            refine V_iload 67 0 rfl dX11_two_65 rfl ?_
            refine V_iconst 68 (2) rfl dX11_two_67 rfl ?_
            refine V_idiv 69 (by decide) dX11_two_68 rfl ?_
            refine V_rw (show _ = (1 : Int32) from by decide) ?_
            refine V_istore 71 [(7, .int 1), (6, .int 2), (8, .int 1), (5, .int 0), (4, .int 1), (0, rf G 69), (1, .int (nI v)), (2, .int y), (3, .int 0)] (by decide) rfl dX11_two_69 rfl ?_
            refine V_iload 73 1 rfl dX11_two_71 rfl ?_
            refine V_iconst 74 (2) rfl dX11_two_73 rfl ?_
            refine V_irem 75 (by decide) dX11_two_74 rfl ?_
            refine V_rw (show _ = (0 : Int32) from by decide) ?_
            refine V_istore 77 [(8, .int 0), (7, .int 1), (6, .int 2), (5, .int 0), (4, .int 1), (0, rf G 69), (1, .int (nI v)), (2, .int y), (3, .int 0)] (by decide) rfl dX11_two_75 rfl ?_
            refine V_iconst 78 (1) rfl dX11_two_77 rfl ?_
            refine V_iload 80 1 rfl dX11_two_78 rfl ?_
            refine V_isub 81 dX11_two_80 rfl ?_
            refine V_rw (show _ = (0 : Int32) from by decide) ?_
            refine V_iload 83 0 rfl dX11_two_81 rfl ?_
            refine V_iload_n 84 6 rfl rfl dX11_two_83 rfl ?_
            refine V_iload_n 85 7 rfl rfl dX11_two_84 rfl ?_
            refine V_callS (K' := 0) (S' := 0) 88 4 [.int 0, .int 0, .int (nI v), .int y] mkX11_hasBy lkX11_436 rfl (Nat.le_of_ble_eq_true rfl) (Nat.le_of_ble_eq_true rfl) (Nat.le_of_ble_eq_true rfl) (Nat.le_of_ble_eq_true rfl) rfl rfl dX11_two_85 rfl (c_X11_hasBy_00 ?_)
            rw [show haF 0 0 (nI v) y = nI v from rfl]
            refine Kq_i (k' := 0) (sl' := 0) rfl rfl ?_
            refine V_iload 90 1 rfl dX11_two_88 rfl ?_
            refine V_iload 92 0 rfl dX11_two_90 rfl ?_
            refine V_iload_n 93 6 rfl rfl dX11_two_92 rfl ?_
            refine V_iload_n 94 7 rfl rfl dX11_two_93 rfl ?_
            refine V_callS (K' := 0) (S' := 0) 97 4 [.int 1, .int 0, .int (nI v), .int y] mkX11_hasBy lkX11_436 rfl (Nat.le_of_ble_eq_true rfl) (Nat.le_of_ble_eq_true rfl) (Nat.le_of_ble_eq_true rfl) (Nat.le_of_ble_eq_true rfl) rfl rfl dX11_two_94 rfl (c_X11_hasBy_10 ?_)
            rw [show haF 1 0 (nI v) y = nI v / 2 from rfl]
            refine Kq_i (k' := 0) (sl' := 0) rfl rfl ?_
            refine V_icmp_gt 150 100 rfl dX11_two_97 rfl (fun c97 => ?_) (fun c97 => absurd (half_lt v hv v0) c97)
            refine V_iinc 153 2 rfl 3 [(6, .int 3), (8, .int 0), (7, .int 1), (5, .int 0), (4, .int 1), (0, rf G 69), (1, .int (nI v)), (2, .int y), (3, .int 0)] (by decide) (by decide) rfl dX11_two_150 rfl ?_
            refine V_goto 59 rfl dX11_two_153 ?_
            refine V_iload 61 0 rfl dX11_two_59 rfl ?_
            refine V_iconst 62 (4) rfl dX11_two_61 rfl ?_
            refine V_icmp_ge 156 65 rfl dX11_two_62 rfl (fun c62 => absurd c62 (by decide)) (fun c62 => ?_)
            refine V_iload 67 0 rfl dX11_two_65 rfl ?_
            refine V_iconst 68 (2) rfl dX11_two_67 rfl ?_
            refine V_idiv 69 (by decide) dX11_two_68 rfl ?_
            refine V_rw (show _ = (1 : Int32) from by decide) ?_
            refine V_istore 71 [(7, .int 1), (6, .int 3), (8, .int 0), (5, .int 0), (4, .int 1), (0, rf G 69), (1, .int (nI v)), (2, .int y), (3, .int 0)] (by decide) rfl dX11_two_69 rfl ?_
            refine V_iload 73 1 rfl dX11_two_71 rfl ?_
            refine V_iconst 74 (2) rfl dX11_two_73 rfl ?_
            refine V_irem 75 (by decide) dX11_two_74 rfl ?_
            refine V_rw (show _ = (1 : Int32) from by decide) ?_
            refine V_istore 77 [(8, .int 1), (7, .int 1), (6, .int 3), (5, .int 0), (4, .int 1), (0, rf G 69), (1, .int (nI v)), (2, .int y), (3, .int 0)] (by decide) rfl dX11_two_75 rfl ?_
            refine V_iconst 78 (1) rfl dX11_two_77 rfl ?_
            refine V_iload 80 1 rfl dX11_two_78 rfl ?_
            refine V_isub 81 dX11_two_80 rfl ?_
            refine V_rw (show _ = (0 : Int32) from by decide) ?_
            refine V_iload 83 0 rfl dX11_two_81 rfl ?_
            refine V_iload_n 84 6 rfl rfl dX11_two_83 rfl ?_
            refine V_iload_n 85 7 rfl rfl dX11_two_84 rfl ?_
            refine V_callS (K' := 0) (S' := 0) 88 4 [.int 0, .int 1, .int (nI v), .int y] mkX11_hasBy lkX11_436 rfl (Nat.le_of_ble_eq_true rfl) (Nat.le_of_ble_eq_true rfl) (Nat.le_of_ble_eq_true rfl) (Nat.le_of_ble_eq_true rfl) rfl rfl dX11_two_85 rfl (c_X11_hasBy_01 ?_)
            rw [show haF 0 1 (nI v) y = y from rfl]
            refine Kq_i (k' := 0) (sl' := 0) rfl rfl ?_
            refine V_iload 90 1 rfl dX11_two_88 rfl ?_
            refine V_iload 92 0 rfl dX11_two_90 rfl ?_
            refine V_iload_n 93 6 rfl rfl dX11_two_92 rfl ?_
            refine V_iload_n 94 7 rfl rfl dX11_two_93 rfl ?_
            refine V_callS (K' := 0) (S' := 0) 97 4 [.int 1, .int 1, .int (nI v), .int y] mkX11_hasBy lkX11_436 rfl (Nat.le_of_ble_eq_true rfl) (Nat.le_of_ble_eq_true rfl) (Nat.le_of_ble_eq_true rfl) (Nat.le_of_ble_eq_true rfl) rfl rfl dX11_two_94 rfl (c_X11_hasBy_11 ?_)
            rw [show haF 1 1 (nI v) y = y from rfl]
            refine Kq_i (k' := 0) (sl' := 0) rfl rfl ?_
            refine V_icmp_gt 150 100 rfl dX11_two_97 rfl (fun c97 => absurd c97 (Int32.lt_irrefl)) (fun c97 => ?_)
            refine V_iconst 101 (1) rfl dX11_two_100 rfl ?_
            refine V_iload 103 0 rfl dX11_two_101 rfl ?_
            refine V_isub 104 dX11_two_103 rfl ?_
            refine V_rw (show _ = (0 : Int32) from by decide) ?_
            refine V_iload 106 1 rfl dX11_two_104 rfl ?_
            refine V_iload_n 107 6 rfl rfl dX11_two_106 rfl ?_
            refine V_iload_n 108 7 rfl rfl dX11_two_107 rfl ?_
            refine V_callS (K' := 0) (S' := 0) 111 4 [.int 0, .int 1, .int (nI v), .int y] mkX11_hasBy lkX11_436 rfl (Nat.le_of_ble_eq_true rfl) (Nat.le_of_ble_eq_true rfl) (Nat.le_of_ble_eq_true rfl) (Nat.le_of_ble_eq_true rfl) rfl rfl dX11_two_108 rfl (c_X11_hasBy_01 ?_)
            rw [show haF 0 1 (nI v) y = y from rfl]
            refine Kq_i (k' := 0) (sl' := 0) rfl rfl ?_
            refine V_iload 113 0 rfl dX11_two_111 rfl ?_
            refine V_iload 115 1 rfl dX11_two_113 rfl ?_
            refine V_iload_n 116 6 rfl rfl dX11_two_115 rfl ?_
            refine V_iload_n 117 7 rfl rfl dX11_two_116 rfl ?_
            refine V_callS (K' := 0) (S' := 0) 120 4 [.int 1, .int 1, .int (nI v), .int y] mkX11_hasBy lkX11_436 rfl (Nat.le_of_ble_eq_true rfl) (Nat.le_of_ble_eq_true rfl) (Nat.le_of_ble_eq_true rfl) (Nat.le_of_ble_eq_true rfl) rfl rfl dX11_two_117 rfl (c_X11_hasBy_11 ?_)
            rw [show haF 1 1 (nI v) y = y from rfl]
            refine Kq_i (k' := 0) (sl' := 0) rfl rfl ?_
            refine V_icmp_le 126 123 rfl dX11_two_120 rfl (fun c120 => ?_) (fun c120 => absurd (Int32.le_refl _) c120)
            refine V_iinc 129 4 rfl 2 [(4, .int 2), (8, .int 1), (7, .int 1), (6, .int 3), (5, .int 0), (0, rf G 69), (1, .int (nI v)), (2, .int y), (3, .int 0)] (by decide) (by decide) rfl dX11_two_126 rfl ?_
            refine V_iload 131 4 rfl dX11_two_129 rfl ?_
            refine V_iconst 132 (-1) rfl dX11_two_131 rfl ?_
            refine V_icmp_ne 146 135 rfl dX11_two_132 rfl (fun c132 => ?_) (fun c132 => absurd c132 (by decide))
            refine V_iload 148 4 rfl dX11_two_146 rfl ?_
            refine V_istore 150 [(5, .int 0), (4, .int 2), (8, .int 1), (7, .int 1), (6, .int 3), (0, rf G 69), (1, .int (nI v)), (2, .int y), (3, .int 0)] (by decide) rfl dX11_two_148 rfl ?_
            refine V_iinc 153 4 rfl 4 [(6, .int 4), (5, .int 0), (4, .int 2), (8, .int 1), (7, .int 1), (0, rf G 69), (1, .int (nI v)), (2, .int y), (3, .int 0)] (by decide) (by decide) rfl dX11_two_150 rfl ?_
            refine V_goto 59 rfl dX11_two_153 ?_
            refine V_iload 61 0 rfl dX11_two_59 rfl ?_
            refine V_iconst 62 (4) rfl dX11_two_61 rfl ?_
            refine V_icmp_ge 156 65 rfl dX11_two_62 rfl (fun c62 => ?_) (fun c62 => absurd c62 (by decide))
            refine V_iload_n 157 8 rfl rfl dX11_two_156 rfl ?_
            refine V_if_ne 165 160 rfl dX11_two_157 rfl (fun c157 => absurd c157 (by decide)) (fun c157 => ?_)
            refine V_iload 162 2 rfl dX11_two_160 rfl ?_
            refine V_goto 216 rfl dX11_two_162 ?_
            refine V_ret_i rfl rfl (Nat.le_of_ble_eq_true rfl) (fun h => absurd h (by decide)) (Nat.le_of_ble_eq_true rfl) (hq I0 hz) dX11_two_216
        · by_cases v0 : v = 0
          · rw [show twF (nI v) 1 = 0 from rfl] at hq
            show V _ _ _ _ _ _ _ _ [(0, rf G 69), (1, .int (nI v)), (2, .int y), (3, .int 1)] [] _ _ _ _ _
            refine V_iconst 51 (0) rfl dX11_two_50 rfl ?_
            refine V_istore 53 [(4, .int 0), (0, rf G 69), (1, .int (nI v)), (2, .int y), (3, .int 1)] (by decide) rfl dX11_two_51 rfl ?_
            refine V_iconst 54 (-1) rfl dX11_two_53 rfl ?_
            refine V_istore 56 [(5, .int (-1)), (4, .int 0), (0, rf G 69), (1, .int (nI v)), (2, .int y), (3, .int 1)] (by decide) rfl dX11_two_54 rfl ?_
            refine V_iconst 57 (0) rfl dX11_two_56 rfl ?_
            refine V_istore 59 [(6, .int 0), (5, .int (-1)), (4, .int 0), (0, rf G 69), (1, .int (nI v)), (2, .int y), (3, .int 1)] (by decide) rfl dX11_two_57 rfl ?_
            refine V_iload 61 0 rfl dX11_two_59 rfl ?_
            refine V_iconst 62 (4) rfl dX11_two_61 rfl ?_
            refine V_icmp_ge 156 65 rfl dX11_two_62 rfl (fun c62 => absurd c62 (by decide)) (fun c62 => ?_)
            refine V_iload 67 0 rfl dX11_two_65 rfl ?_
            refine V_iconst 68 (2) rfl dX11_two_67 rfl ?_
            refine V_idiv 69 (by decide) dX11_two_68 rfl ?_
            refine V_rw (show _ = (0 : Int32) from by decide) ?_
            refine V_istore 71 [(7, .int 0), (6, .int 0), (5, .int (-1)), (4, .int 0), (0, rf G 69), (1, .int (nI v)), (2, .int y), (3, .int 1)] (by decide) rfl dX11_two_69 rfl ?_
            refine V_iload 73 1 rfl dX11_two_71 rfl ?_
            refine V_iconst 74 (2) rfl dX11_two_73 rfl ?_
            refine V_irem 75 (by decide) dX11_two_74 rfl ?_
            refine V_rw (show _ = (0 : Int32) from by decide) ?_
            refine V_istore 77 [(8, .int 0), (7, .int 0), (6, .int 0), (5, .int (-1)), (4, .int 0), (0, rf G 69), (1, .int (nI v)), (2, .int y), (3, .int 1)] (by decide) rfl dX11_two_75 rfl ?_
            refine V_iconst 78 (1) rfl dX11_two_77 rfl ?_
            refine V_iload 80 1 rfl dX11_two_78 rfl ?_
            refine V_isub 81 dX11_two_80 rfl ?_
            refine V_rw (show _ = (1 : Int32) from by decide) ?_
            refine V_iload 83 0 rfl dX11_two_81 rfl ?_
            refine V_iload_n 84 6 rfl rfl dX11_two_83 rfl ?_
            refine V_iload_n 85 7 rfl rfl dX11_two_84 rfl ?_
            refine V_callS (K' := 0) (S' := 0) 88 4 [.int 1, .int 0, .int (nI v), .int y] mkX11_hasBy lkX11_436 rfl (Nat.le_of_ble_eq_true rfl) (Nat.le_of_ble_eq_true rfl) (Nat.le_of_ble_eq_true rfl) (Nat.le_of_ble_eq_true rfl) rfl rfl dX11_two_85 rfl (c_X11_hasBy_10 ?_)
            rw [show haF 1 0 (nI v) y = nI v / 2 from rfl]
            refine Kq_i (k' := 0) (sl' := 0) rfl rfl ?_
            refine V_iload 90 1 rfl dX11_two_88 rfl ?_
            refine V_iload 92 0 rfl dX11_two_90 rfl ?_
            refine V_iload_n 93 6 rfl rfl dX11_two_92 rfl ?_
            refine V_iload_n 94 7 rfl rfl dX11_two_93 rfl ?_
            refine V_callS (K' := 0) (S' := 0) 97 4 [.int 0, .int 0, .int (nI v), .int y] mkX11_hasBy lkX11_436 rfl (Nat.le_of_ble_eq_true rfl) (Nat.le_of_ble_eq_true rfl) (Nat.le_of_ble_eq_true rfl) (Nat.le_of_ble_eq_true rfl) rfl rfl dX11_two_94 rfl (c_X11_hasBy_00 ?_)
            rw [show haF 0 0 (nI v) y = nI v from rfl]
            refine Kq_i (k' := 0) (sl' := 0) rfl rfl ?_
            refine V_icmp_gt 150 100 rfl dX11_two_97 rfl (fun c97 => absurd c97 (half_le v hv)) (fun c97 => ?_)
            refine V_iconst 101 (1) rfl dX11_two_100 rfl ?_
            refine V_iload 103 0 rfl dX11_two_101 rfl ?_
            refine V_isub 104 dX11_two_103 rfl ?_
            refine V_rw (show _ = (1 : Int32) from by decide) ?_
            refine V_iload 106 1 rfl dX11_two_104 rfl ?_
            refine V_iload_n 107 6 rfl rfl dX11_two_106 rfl ?_
            refine V_iload_n 108 7 rfl rfl dX11_two_107 rfl ?_
            refine V_callS (K' := 0) (S' := 0) 111 4 [.int 1, .int 0, .int (nI v), .int y] mkX11_hasBy lkX11_436 rfl (Nat.le_of_ble_eq_true rfl) (Nat.le_of_ble_eq_true rfl) (Nat.le_of_ble_eq_true rfl) (Nat.le_of_ble_eq_true rfl) rfl rfl dX11_two_108 rfl (c_X11_hasBy_10 ?_)
            rw [show haF 1 0 (nI v) y = nI v / 2 from rfl]
            refine Kq_i (k' := 0) (sl' := 0) rfl rfl ?_
            refine V_iload 113 0 rfl dX11_two_111 rfl ?_
            refine V_iload 115 1 rfl dX11_two_113 rfl ?_
            refine V_iload_n 116 6 rfl rfl dX11_two_115 rfl ?_
            refine V_iload_n 117 7 rfl rfl dX11_two_116 rfl ?_
            refine V_callS (K' := 0) (S' := 0) 120 4 [.int 0, .int 0, .int (nI v), .int y] mkX11_hasBy lkX11_436 rfl (Nat.le_of_ble_eq_true rfl) (Nat.le_of_ble_eq_true rfl) (Nat.le_of_ble_eq_true rfl) (Nat.le_of_ble_eq_true rfl) rfl rfl dX11_two_117 rfl (c_X11_hasBy_00 ?_)
            rw [show haF 0 0 (nI v) y = nI v from rfl]
            refine Kq_i (k' := 0) (sl' := 0) rfl rfl ?_
            refine V_icmp_le 126 123 rfl dX11_two_120 rfl (fun c120 => ?_) (fun c120 => absurd (Int32.not_lt.mp (half_le v hv)) c120)
            refine V_iinc 129 4 rfl 1 [(4, .int 1), (8, .int 0), (7, .int 0), (6, .int 0), (5, .int (-1)), (0, rf G 69), (1, .int (nI v)), (2, .int y), (3, .int 1)] (by decide) (by decide) rfl dX11_two_126 rfl ?_
            refine V_iload 131 4 rfl dX11_two_129 rfl ?_
            refine V_iconst 132 (-1) rfl dX11_two_131 rfl ?_
            refine V_icmp_ne 146 135 rfl dX11_two_132 rfl (fun c132 => absurd c132 (by decide)) (fun c132 => ?_)
            refine V_bipush 137 (10) rfl dX11_two_135 rfl ?_
            refine V_iload 139 2 rfl dX11_two_137 rfl ?_
            refine V_imul 140 dX11_two_139 rfl ?_
            refine V_rw (show _ = (0 : Int32) from by decide) ?_
            refine V_iload 142 1 rfl dX11_two_140 rfl ?_
            refine V_iadd 143 dX11_two_142 rfl ?_
            refine V_rw (show _ = (0 : Int32) from by decide) ?_
            refine V_goto 148 rfl dX11_two_143 ?_
            refine V_istore 150 [(5, .int 0), (4, .int 1), (8, .int 0), (7, .int 0), (6, .int 0), (0, rf G 69), (1, .int (nI v)), (2, .int y), (3, .int 1)] (by decide) rfl dX11_two_148 rfl ?_
            refine V_iinc 153 4 rfl 1 [(6, .int 1), (5, .int 0), (4, .int 1), (8, .int 0), (7, .int 0), (0, rf G 69), (1, .int (nI v)), (2, .int y), (3, .int 1)] (by decide) (by decide) rfl dX11_two_150 rfl ?_
            refine V_goto 59 rfl dX11_two_153 ?_
            refine V_iload 61 0 rfl dX11_two_59 rfl ?_
            refine V_iconst 62 (4) rfl dX11_two_61 rfl ?_
            refine V_icmp_ge 156 65 rfl dX11_two_62 rfl (fun c62 => absurd c62 (by decide)) (fun c62 => ?_)
            refine V_iload 67 0 rfl dX11_two_65 rfl ?_
            refine V_iconst 68 (2) rfl dX11_two_67 rfl ?_
            refine V_idiv 69 (by decide) dX11_two_68 rfl ?_
            refine V_rw (show _ = (0 : Int32) from by decide) ?_
            refine V_istore 71 [(7, .int 0), (6, .int 1), (5, .int 0), (4, .int 1), (8, .int 0), (0, rf G 69), (1, .int (nI v)), (2, .int y), (3, .int 1)] (by decide) rfl dX11_two_69 rfl ?_
            refine V_iload 73 1 rfl dX11_two_71 rfl ?_
            refine V_iconst 74 (2) rfl dX11_two_73 rfl ?_
            refine V_irem 75 (by decide) dX11_two_74 rfl ?_
            refine V_rw (show _ = (1 : Int32) from by decide) ?_
            refine V_istore 77 [(8, .int 1), (7, .int 0), (6, .int 1), (5, .int 0), (4, .int 1), (0, rf G 69), (1, .int (nI v)), (2, .int y), (3, .int 1)] (by decide) rfl dX11_two_75 rfl ?_
            refine V_iconst 78 (1) rfl dX11_two_77 rfl ?_
            refine V_iload 80 1 rfl dX11_two_78 rfl ?_
            refine V_isub 81 dX11_two_80 rfl ?_
            refine V_rw (show _ = (1 : Int32) from by decide) ?_
            refine V_iload 83 0 rfl dX11_two_81 rfl ?_
            refine V_iload_n 84 6 rfl rfl dX11_two_83 rfl ?_
            refine V_iload_n 85 7 rfl rfl dX11_two_84 rfl ?_
            refine V_callS (K' := 0) (S' := 0) 88 4 [.int 1, .int 1, .int (nI v), .int y] mkX11_hasBy lkX11_436 rfl (Nat.le_of_ble_eq_true rfl) (Nat.le_of_ble_eq_true rfl) (Nat.le_of_ble_eq_true rfl) (Nat.le_of_ble_eq_true rfl) rfl rfl dX11_two_85 rfl (c_X11_hasBy_11 ?_)
            rw [show haF 1 1 (nI v) y = y from rfl]
            refine Kq_i (k' := 0) (sl' := 0) rfl rfl ?_
            refine V_iload 90 1 rfl dX11_two_88 rfl ?_
            refine V_iload 92 0 rfl dX11_two_90 rfl ?_
            refine V_iload_n 93 6 rfl rfl dX11_two_92 rfl ?_
            refine V_iload_n 94 7 rfl rfl dX11_two_93 rfl ?_
            refine V_callS (K' := 0) (S' := 0) 97 4 [.int 0, .int 1, .int (nI v), .int y] mkX11_hasBy lkX11_436 rfl (Nat.le_of_ble_eq_true rfl) (Nat.le_of_ble_eq_true rfl) (Nat.le_of_ble_eq_true rfl) (Nat.le_of_ble_eq_true rfl) rfl rfl dX11_two_94 rfl (c_X11_hasBy_01 ?_)
            rw [show haF 0 1 (nI v) y = y from rfl]
            refine Kq_i (k' := 0) (sl' := 0) rfl rfl ?_
            refine V_icmp_gt 150 100 rfl dX11_two_97 rfl (fun c97 => absurd c97 (Int32.lt_irrefl)) (fun c97 => ?_)
            refine V_iconst 101 (1) rfl dX11_two_100 rfl ?_
            refine V_iload 103 0 rfl dX11_two_101 rfl ?_
            refine V_isub 104 dX11_two_103 rfl ?_
            refine V_rw (show _ = (0 : Int32) from by decide) ?_
            refine V_iload 106 1 rfl dX11_two_104 rfl ?_
            refine V_iload_n 107 6 rfl rfl dX11_two_106 rfl ?_
            refine V_iload_n 108 7 rfl rfl dX11_two_107 rfl ?_
            refine V_callS (K' := 0) (S' := 0) 111 4 [.int 0, .int 0, .int (nI v), .int y] mkX11_hasBy lkX11_436 rfl (Nat.le_of_ble_eq_true rfl) (Nat.le_of_ble_eq_true rfl) (Nat.le_of_ble_eq_true rfl) (Nat.le_of_ble_eq_true rfl) rfl rfl dX11_two_108 rfl (c_X11_hasBy_00 ?_)
            rw [show haF 0 0 (nI v) y = nI v from rfl]
            refine Kq_i (k' := 0) (sl' := 0) rfl rfl ?_
            refine V_iload 113 0 rfl dX11_two_111 rfl ?_
            refine V_iload 115 1 rfl dX11_two_113 rfl ?_
            refine V_iload_n 116 6 rfl rfl dX11_two_115 rfl ?_
            refine V_iload_n 117 7 rfl rfl dX11_two_116 rfl ?_
            refine V_callS (K' := 0) (S' := 0) 120 4 [.int 1, .int 0, .int (nI v), .int y] mkX11_hasBy lkX11_436 rfl (Nat.le_of_ble_eq_true rfl) (Nat.le_of_ble_eq_true rfl) (Nat.le_of_ble_eq_true rfl) (Nat.le_of_ble_eq_true rfl) rfl rfl dX11_two_117 rfl (c_X11_hasBy_10 ?_)
            rw [show haF 1 0 (nI v) y = nI v / 2 from rfl]
            refine Kq_i (k' := 0) (sl' := 0) rfl rfl ?_
            refine V_icmp_le 126 123 rfl dX11_two_120 rfl (fun c120 => ?_) (fun c120 => absurd (by rw [v0]; decide) c120)
            refine V_iinc 129 4 rfl 2 [(4, .int 2), (8, .int 1), (7, .int 0), (6, .int 1), (5, .int 0), (0, rf G 69), (1, .int (nI v)), (2, .int y), (3, .int 1)] (by decide) (by decide) rfl dX11_two_126 rfl ?_
            refine V_iload 131 4 rfl dX11_two_129 rfl ?_
            refine V_iconst 132 (-1) rfl dX11_two_131 rfl ?_
            refine V_icmp_ne 146 135 rfl dX11_two_132 rfl (fun c132 => ?_) (fun c132 => absurd c132 (by decide))
            refine V_iload 148 4 rfl dX11_two_146 rfl ?_
            refine V_istore 150 [(5, .int 0), (4, .int 2), (8, .int 1), (7, .int 0), (6, .int 1), (0, rf G 69), (1, .int (nI v)), (2, .int y), (3, .int 1)] (by decide) rfl dX11_two_148 rfl ?_
            refine V_iinc 153 4 rfl 2 [(6, .int 2), (5, .int 0), (4, .int 2), (8, .int 1), (7, .int 0), (0, rf G 69), (1, .int (nI v)), (2, .int y), (3, .int 1)] (by decide) (by decide) rfl dX11_two_150 rfl ?_
            refine V_goto 59 rfl dX11_two_153 ?_
            refine V_iload 61 0 rfl dX11_two_59 rfl ?_
            refine V_iconst 62 (4) rfl dX11_two_61 rfl ?_
            refine V_icmp_ge 156 65 rfl dX11_two_62 rfl (fun c62 => absurd c62 (by decide)) (fun c62 => ?_)
            refine V_iload 67 0 rfl dX11_two_65 rfl ?_
            refine V_iconst 68 (2) rfl dX11_two_67 rfl ?_
            refine V_idiv 69 (by decide) dX11_two_68 rfl ?_
            refine V_rw (show _ = (1 : Int32) from by decide) ?_
            refine V_istore 71 [(7, .int 1), (6, .int 2), (5, .int 0), (4, .int 2), (8, .int 1), (0, rf G 69), (1, .int (nI v)), (2, .int y), (3, .int 1)] (by decide) rfl dX11_two_69 rfl ?_
            refine V_iload 73 1 rfl dX11_two_71 rfl ?_
            refine V_iconst 74 (2) rfl dX11_two_73 rfl ?_
            refine V_irem 75 (by decide) dX11_two_74 rfl ?_
            refine V_rw (show _ = (0 : Int32) from by decide) ?_
            refine V_istore 77 [(8, .int 0), (7, .int 1), (6, .int 2), (5, .int 0), (4, .int 2), (0, rf G 69), (1, .int (nI v)), (2, .int y), (3, .int 1)] (by decide) rfl dX11_two_75 rfl ?_
            refine V_iconst 78 (1) rfl dX11_two_77 rfl ?_
            refine V_iload 80 1 rfl dX11_two_78 rfl ?_
            refine V_isub 81 dX11_two_80 rfl ?_
            refine V_rw (show _ = (0 : Int32) from by decide) ?_
            refine V_iload 83 0 rfl dX11_two_81 rfl ?_
            refine V_iload_n 84 6 rfl rfl dX11_two_83 rfl ?_
            refine V_iload_n 85 7 rfl rfl dX11_two_84 rfl ?_
            refine V_callS (K' := 0) (S' := 0) 88 4 [.int 0, .int 0, .int (nI v), .int y] mkX11_hasBy lkX11_436 rfl (Nat.le_of_ble_eq_true rfl) (Nat.le_of_ble_eq_true rfl) (Nat.le_of_ble_eq_true rfl) (Nat.le_of_ble_eq_true rfl) rfl rfl dX11_two_85 rfl (c_X11_hasBy_00 ?_)
            rw [show haF 0 0 (nI v) y = nI v from rfl]
            refine Kq_i (k' := 0) (sl' := 0) rfl rfl ?_
            refine V_iload 90 1 rfl dX11_two_88 rfl ?_
            refine V_iload 92 0 rfl dX11_two_90 rfl ?_
            refine V_iload_n 93 6 rfl rfl dX11_two_92 rfl ?_
            refine V_iload_n 94 7 rfl rfl dX11_two_93 rfl ?_
            refine V_callS (K' := 0) (S' := 0) 97 4 [.int 1, .int 0, .int (nI v), .int y] mkX11_hasBy lkX11_436 rfl (Nat.le_of_ble_eq_true rfl) (Nat.le_of_ble_eq_true rfl) (Nat.le_of_ble_eq_true rfl) (Nat.le_of_ble_eq_true rfl) rfl rfl dX11_two_94 rfl (c_X11_hasBy_10 ?_)
            rw [show haF 1 0 (nI v) y = nI v / 2 from rfl]
            refine Kq_i (k' := 0) (sl' := 0) rfl rfl ?_
            refine V_icmp_gt 150 100 rfl dX11_two_97 rfl (fun c97 => absurd c97 (by rw [v0]; decide)) (fun c97 => ?_)
            refine V_iconst 101 (1) rfl dX11_two_100 rfl ?_
            refine V_iload 103 0 rfl dX11_two_101 rfl ?_
            refine V_isub 104 dX11_two_103 rfl ?_
            refine V_rw (show _ = (1 : Int32) from by decide) ?_
            refine V_iload 106 1 rfl dX11_two_104 rfl ?_
            refine V_iload_n 107 6 rfl rfl dX11_two_106 rfl ?_
            refine V_iload_n 108 7 rfl rfl dX11_two_107 rfl ?_
            refine V_callS (K' := 0) (S' := 0) 111 4 [.int 1, .int 1, .int (nI v), .int y] mkX11_hasBy lkX11_436 rfl (Nat.le_of_ble_eq_true rfl) (Nat.le_of_ble_eq_true rfl) (Nat.le_of_ble_eq_true rfl) (Nat.le_of_ble_eq_true rfl) rfl rfl dX11_two_108 rfl (c_X11_hasBy_11 ?_)
            rw [show haF 1 1 (nI v) y = y from rfl]
            refine Kq_i (k' := 0) (sl' := 0) rfl rfl ?_
            refine V_iload 113 0 rfl dX11_two_111 rfl ?_
            refine V_iload 115 1 rfl dX11_two_113 rfl ?_
            refine V_iload_n 116 6 rfl rfl dX11_two_115 rfl ?_
            refine V_iload_n 117 7 rfl rfl dX11_two_116 rfl ?_
            refine V_callS (K' := 0) (S' := 0) 120 4 [.int 0, .int 1, .int (nI v), .int y] mkX11_hasBy lkX11_436 rfl (Nat.le_of_ble_eq_true rfl) (Nat.le_of_ble_eq_true rfl) (Nat.le_of_ble_eq_true rfl) (Nat.le_of_ble_eq_true rfl) rfl rfl dX11_two_117 rfl (c_X11_hasBy_01 ?_)
            rw [show haF 0 1 (nI v) y = y from rfl]
            refine Kq_i (k' := 0) (sl' := 0) rfl rfl ?_
            refine V_icmp_le 126 123 rfl dX11_two_120 rfl (fun c120 => ?_) (fun c120 => absurd (Int32.le_refl _) c120)
            refine V_iinc 129 4 rfl 3 [(4, .int 3), (8, .int 0), (7, .int 1), (6, .int 2), (5, .int 0), (0, rf G 69), (1, .int (nI v)), (2, .int y), (3, .int 1)] (by decide) (by decide) rfl dX11_two_126 rfl ?_
            refine V_iload 131 4 rfl dX11_two_129 rfl ?_
            refine V_iconst 132 (-1) rfl dX11_two_131 rfl ?_
            refine V_icmp_ne 146 135 rfl dX11_two_132 rfl (fun c132 => ?_) (fun c132 => absurd c132 (by decide))
            refine V_iload 148 4 rfl dX11_two_146 rfl ?_
            refine V_istore 150 [(5, .int 0), (4, .int 3), (8, .int 0), (7, .int 1), (6, .int 2), (0, rf G 69), (1, .int (nI v)), (2, .int y), (3, .int 1)] (by decide) rfl dX11_two_148 rfl ?_
            refine V_iinc 153 4 rfl 3 [(6, .int 3), (5, .int 0), (4, .int 3), (8, .int 0), (7, .int 1), (0, rf G 69), (1, .int (nI v)), (2, .int y), (3, .int 1)] (by decide) (by decide) rfl dX11_two_150 rfl ?_
            refine V_goto 59 rfl dX11_two_153 ?_
            refine V_iload 61 0 rfl dX11_two_59 rfl ?_
            refine V_iconst 62 (4) rfl dX11_two_61 rfl ?_
            refine V_icmp_ge 156 65 rfl dX11_two_62 rfl (fun c62 => absurd c62 (by decide)) (fun c62 => ?_)
            refine V_iload 67 0 rfl dX11_two_65 rfl ?_
            refine V_iconst 68 (2) rfl dX11_two_67 rfl ?_
            refine V_idiv 69 (by decide) dX11_two_68 rfl ?_
            refine V_rw (show _ = (1 : Int32) from by decide) ?_
            refine V_istore 71 [(7, .int 1), (6, .int 3), (5, .int 0), (4, .int 3), (8, .int 0), (0, rf G 69), (1, .int (nI v)), (2, .int y), (3, .int 1)] (by decide) rfl dX11_two_69 rfl ?_
            refine V_iload 73 1 rfl dX11_two_71 rfl ?_
            refine V_iconst 74 (2) rfl dX11_two_73 rfl ?_
            refine V_irem 75 (by decide) dX11_two_74 rfl ?_
            refine V_rw (show _ = (1 : Int32) from by decide) ?_
            refine V_istore 77 [(8, .int 1), (7, .int 1), (6, .int 3), (5, .int 0), (4, .int 3), (0, rf G 69), (1, .int (nI v)), (2, .int y), (3, .int 1)] (by decide) rfl dX11_two_75 rfl ?_
            refine V_iconst 78 (1) rfl dX11_two_77 rfl ?_
            refine V_iload 80 1 rfl dX11_two_78 rfl ?_
            refine V_isub 81 dX11_two_80 rfl ?_
            refine V_rw (show _ = (0 : Int32) from by decide) ?_
            refine V_iload 83 0 rfl dX11_two_81 rfl ?_
            refine V_iload_n 84 6 rfl rfl dX11_two_83 rfl ?_
            refine V_iload_n 85 7 rfl rfl dX11_two_84 rfl ?_
            refine V_callS (K' := 0) (S' := 0) 88 4 [.int 0, .int 1, .int (nI v), .int y] mkX11_hasBy lkX11_436 rfl (Nat.le_of_ble_eq_true rfl) (Nat.le_of_ble_eq_true rfl) (Nat.le_of_ble_eq_true rfl) (Nat.le_of_ble_eq_true rfl) rfl rfl dX11_two_85 rfl (c_X11_hasBy_01 ?_)
            rw [show haF 0 1 (nI v) y = y from rfl]
            refine Kq_i (k' := 0) (sl' := 0) rfl rfl ?_
            refine V_iload 90 1 rfl dX11_two_88 rfl ?_
            refine V_iload 92 0 rfl dX11_two_90 rfl ?_
            refine V_iload_n 93 6 rfl rfl dX11_two_92 rfl ?_
            refine V_iload_n 94 7 rfl rfl dX11_two_93 rfl ?_
            refine V_callS (K' := 0) (S' := 0) 97 4 [.int 1, .int 1, .int (nI v), .int y] mkX11_hasBy lkX11_436 rfl (Nat.le_of_ble_eq_true rfl) (Nat.le_of_ble_eq_true rfl) (Nat.le_of_ble_eq_true rfl) (Nat.le_of_ble_eq_true rfl) rfl rfl dX11_two_94 rfl (c_X11_hasBy_11 ?_)
            rw [show haF 1 1 (nI v) y = y from rfl]
            refine Kq_i (k' := 0) (sl' := 0) rfl rfl ?_
            refine V_icmp_gt 150 100 rfl dX11_two_97 rfl (fun c97 => absurd c97 (Int32.lt_irrefl)) (fun c97 => ?_)
            refine V_iconst 101 (1) rfl dX11_two_100 rfl ?_
            refine V_iload 103 0 rfl dX11_two_101 rfl ?_
            refine V_isub 104 dX11_two_103 rfl ?_
            refine V_rw (show _ = (0 : Int32) from by decide) ?_
            refine V_iload 106 1 rfl dX11_two_104 rfl ?_
            refine V_iload_n 107 6 rfl rfl dX11_two_106 rfl ?_
            refine V_iload_n 108 7 rfl rfl dX11_two_107 rfl ?_
            refine V_callS (K' := 0) (S' := 0) 111 4 [.int 0, .int 1, .int (nI v), .int y] mkX11_hasBy lkX11_436 rfl (Nat.le_of_ble_eq_true rfl) (Nat.le_of_ble_eq_true rfl) (Nat.le_of_ble_eq_true rfl) (Nat.le_of_ble_eq_true rfl) rfl rfl dX11_two_108 rfl (c_X11_hasBy_01 ?_)
            rw [show haF 0 1 (nI v) y = y from rfl]
            refine Kq_i (k' := 0) (sl' := 0) rfl rfl ?_
            refine V_iload 113 0 rfl dX11_two_111 rfl ?_
            refine V_iload 115 1 rfl dX11_two_113 rfl ?_
            refine V_iload_n 116 6 rfl rfl dX11_two_115 rfl ?_
            refine V_iload_n 117 7 rfl rfl dX11_two_116 rfl ?_
            refine V_callS (K' := 0) (S' := 0) 120 4 [.int 1, .int 1, .int (nI v), .int y] mkX11_hasBy lkX11_436 rfl (Nat.le_of_ble_eq_true rfl) (Nat.le_of_ble_eq_true rfl) (Nat.le_of_ble_eq_true rfl) (Nat.le_of_ble_eq_true rfl) rfl rfl dX11_two_117 rfl (c_X11_hasBy_11 ?_)
            rw [show haF 1 1 (nI v) y = y from rfl]
            refine Kq_i (k' := 0) (sl' := 0) rfl rfl ?_
            refine V_icmp_le 126 123 rfl dX11_two_120 rfl (fun c120 => ?_) (fun c120 => absurd (Int32.le_refl _) c120)
            refine V_iinc 129 4 rfl 4 [(4, .int 4), (8, .int 1), (7, .int 1), (6, .int 3), (5, .int 0), (0, rf G 69), (1, .int (nI v)), (2, .int y), (3, .int 1)] (by decide) (by decide) rfl dX11_two_126 rfl ?_
            refine V_iload 131 4 rfl dX11_two_129 rfl ?_
            refine V_iconst 132 (-1) rfl dX11_two_131 rfl ?_
            refine V_icmp_ne 146 135 rfl dX11_two_132 rfl (fun c132 => ?_) (fun c132 => absurd c132 (by decide))
            refine V_iload 148 4 rfl dX11_two_146 rfl ?_
            refine V_istore 150 [(5, .int 0), (4, .int 4), (8, .int 1), (7, .int 1), (6, .int 3), (0, rf G 69), (1, .int (nI v)), (2, .int y), (3, .int 1)] (by decide) rfl dX11_two_148 rfl ?_
            refine V_iinc 153 4 rfl 4 [(6, .int 4), (5, .int 0), (4, .int 4), (8, .int 1), (7, .int 1), (0, rf G 69), (1, .int (nI v)), (2, .int y), (3, .int 1)] (by decide) (by decide) rfl dX11_two_150 rfl ?_
            refine V_goto 59 rfl dX11_two_153 ?_
            refine V_iload 61 0 rfl dX11_two_59 rfl ?_
            refine V_iconst 62 (4) rfl dX11_two_61 rfl ?_
            refine V_icmp_ge 156 65 rfl dX11_two_62 rfl (fun c62 => ?_) (fun c62 => absurd c62 (by decide))
            refine V_iload_n 157 8 rfl rfl dX11_two_156 rfl ?_
            refine V_if_ne 165 160 rfl dX11_two_157 rfl (fun c157 => ?_) (fun c157 => absurd c157 (by decide))
            refine V_iload_n 166 8 rfl rfl dX11_two_165 rfl ?_
            refine V_iconst 167 (1) rfl dX11_two_166 rfl ?_
            refine V_icmp_ne 175 170 rfl dX11_two_167 rfl (fun c167 => absurd c167 (by decide)) (fun c167 => ?_)
            refine V_iload 172 1 rfl dX11_two_170 rfl ?_
            refine V_goto 216 rfl dX11_two_172 ?_
            refine V_ret_i rfl rfl (Nat.le_of_ble_eq_true rfl) (fun h => absurd h (by decide)) (Nat.le_of_ble_eq_true rfl) (hq I0 hz) dX11_two_216
          · rw [show twF (nI v) 1 = 0 from rfl] at hq
            show V _ _ _ _ _ _ _ _ [(0, rf G 69), (1, .int (nI v)), (2, .int y), (3, .int 1)] [] _ _ _ _ _
            refine V_iconst 51 (0) rfl dX11_two_50 rfl ?_
            refine V_istore 53 [(4, .int 0), (0, rf G 69), (1, .int (nI v)), (2, .int y), (3, .int 1)] (by decide) rfl dX11_two_51 rfl ?_
            refine V_iconst 54 (-1) rfl dX11_two_53 rfl ?_
            refine V_istore 56 [(5, .int (-1)), (4, .int 0), (0, rf G 69), (1, .int (nI v)), (2, .int y), (3, .int 1)] (by decide) rfl dX11_two_54 rfl ?_
            refine V_iconst 57 (0) rfl dX11_two_56 rfl ?_
            refine V_istore 59 [(6, .int 0), (5, .int (-1)), (4, .int 0), (0, rf G 69), (1, .int (nI v)), (2, .int y), (3, .int 1)] (by decide) rfl dX11_two_57 rfl ?_
            refine V_iload 61 0 rfl dX11_two_59 rfl ?_
            refine V_iconst 62 (4) rfl dX11_two_61 rfl ?_
            refine V_icmp_ge 156 65 rfl dX11_two_62 rfl (fun c62 => absurd c62 (by decide)) (fun c62 => ?_)
            refine V_iload 67 0 rfl dX11_two_65 rfl ?_
            refine V_iconst 68 (2) rfl dX11_two_67 rfl ?_
            refine V_idiv 69 (by decide) dX11_two_68 rfl ?_
            refine V_rw (show _ = (0 : Int32) from by decide) ?_
            refine V_istore 71 [(7, .int 0), (6, .int 0), (5, .int (-1)), (4, .int 0), (0, rf G 69), (1, .int (nI v)), (2, .int y), (3, .int 1)] (by decide) rfl dX11_two_69 rfl ?_
            refine V_iload 73 1 rfl dX11_two_71 rfl ?_
            refine V_iconst 74 (2) rfl dX11_two_73 rfl ?_
            refine V_irem 75 (by decide) dX11_two_74 rfl ?_
            refine V_rw (show _ = (0 : Int32) from by decide) ?_
            refine V_istore 77 [(8, .int 0), (7, .int 0), (6, .int 0), (5, .int (-1)), (4, .int 0), (0, rf G 69), (1, .int (nI v)), (2, .int y), (3, .int 1)] (by decide) rfl dX11_two_75 rfl ?_
            refine V_iconst 78 (1) rfl dX11_two_77 rfl ?_
            refine V_iload 80 1 rfl dX11_two_78 rfl ?_
            refine V_isub 81 dX11_two_80 rfl ?_
            refine V_rw (show _ = (1 : Int32) from by decide) ?_
            refine V_iload 83 0 rfl dX11_two_81 rfl ?_
            refine V_iload_n 84 6 rfl rfl dX11_two_83 rfl ?_
            refine V_iload_n 85 7 rfl rfl dX11_two_84 rfl ?_
            refine V_callS (K' := 0) (S' := 0) 88 4 [.int 1, .int 0, .int (nI v), .int y] mkX11_hasBy lkX11_436 rfl (Nat.le_of_ble_eq_true rfl) (Nat.le_of_ble_eq_true rfl) (Nat.le_of_ble_eq_true rfl) (Nat.le_of_ble_eq_true rfl) rfl rfl dX11_two_85 rfl (c_X11_hasBy_10 ?_)
            rw [show haF 1 0 (nI v) y = nI v / 2 from rfl]
            refine Kq_i (k' := 0) (sl' := 0) rfl rfl ?_
            refine V_iload 90 1 rfl dX11_two_88 rfl ?_
            refine V_iload 92 0 rfl dX11_two_90 rfl ?_
            refine V_iload_n 93 6 rfl rfl dX11_two_92 rfl ?_
            refine V_iload_n 94 7 rfl rfl dX11_two_93 rfl ?_
            refine V_callS (K' := 0) (S' := 0) 97 4 [.int 0, .int 0, .int (nI v), .int y] mkX11_hasBy lkX11_436 rfl (Nat.le_of_ble_eq_true rfl) (Nat.le_of_ble_eq_true rfl) (Nat.le_of_ble_eq_true rfl) (Nat.le_of_ble_eq_true rfl) rfl rfl dX11_two_94 rfl (c_X11_hasBy_00 ?_)
            rw [show haF 0 0 (nI v) y = nI v from rfl]
            refine Kq_i (k' := 0) (sl' := 0) rfl rfl ?_
            refine V_icmp_gt 150 100 rfl dX11_two_97 rfl (fun c97 => absurd c97 (half_le v hv)) (fun c97 => ?_)
            refine V_iconst 101 (1) rfl dX11_two_100 rfl ?_
            refine V_iload 103 0 rfl dX11_two_101 rfl ?_
            refine V_isub 104 dX11_two_103 rfl ?_
            refine V_rw (show _ = (1 : Int32) from by decide) ?_
            refine V_iload 106 1 rfl dX11_two_104 rfl ?_
            refine V_iload_n 107 6 rfl rfl dX11_two_106 rfl ?_
            refine V_iload_n 108 7 rfl rfl dX11_two_107 rfl ?_
            refine V_callS (K' := 0) (S' := 0) 111 4 [.int 1, .int 0, .int (nI v), .int y] mkX11_hasBy lkX11_436 rfl (Nat.le_of_ble_eq_true rfl) (Nat.le_of_ble_eq_true rfl) (Nat.le_of_ble_eq_true rfl) (Nat.le_of_ble_eq_true rfl) rfl rfl dX11_two_108 rfl (c_X11_hasBy_10 ?_)
            rw [show haF 1 0 (nI v) y = nI v / 2 from rfl]
            refine Kq_i (k' := 0) (sl' := 0) rfl rfl ?_
            refine V_iload 113 0 rfl dX11_two_111 rfl ?_
            refine V_iload 115 1 rfl dX11_two_113 rfl ?_
            refine V_iload_n 116 6 rfl rfl dX11_two_115 rfl ?_
            refine V_iload_n 117 7 rfl rfl dX11_two_116 rfl ?_
            refine V_callS (K' := 0) (S' := 0) 120 4 [.int 0, .int 0, .int (nI v), .int y] mkX11_hasBy lkX11_436 rfl (Nat.le_of_ble_eq_true rfl) (Nat.le_of_ble_eq_true rfl) (Nat.le_of_ble_eq_true rfl) (Nat.le_of_ble_eq_true rfl) rfl rfl dX11_two_117 rfl (c_X11_hasBy_00 ?_)
            rw [show haF 0 0 (nI v) y = nI v from rfl]
            refine Kq_i (k' := 0) (sl' := 0) rfl rfl ?_
            refine V_icmp_le 126 123 rfl dX11_two_120 rfl (fun c120 => ?_) (fun c120 => absurd (Int32.not_lt.mp (half_le v hv)) c120)
            refine V_iinc 129 4 rfl 1 [(4, .int 1), (8, .int 0), (7, .int 0), (6, .int 0), (5, .int (-1)), (0, rf G 69), (1, .int (nI v)), (2, .int y), (3, .int 1)] (by decide) (by decide) rfl dX11_two_126 rfl ?_
            refine V_iload 131 4 rfl dX11_two_129 rfl ?_
            refine V_iconst 132 (-1) rfl dX11_two_131 rfl ?_
            refine V_icmp_ne 146 135 rfl dX11_two_132 rfl (fun c132 => absurd c132 (by decide)) (fun c132 => ?_)
            refine V_bipush 137 (10) rfl dX11_two_135 rfl ?_
            refine V_iload 139 2 rfl dX11_two_137 rfl ?_
            refine V_imul 140 dX11_two_139 rfl ?_
            refine V_rw (show _ = (0 : Int32) from by decide) ?_
            refine V_iload 142 1 rfl dX11_two_140 rfl ?_
            refine V_iadd 143 dX11_two_142 rfl ?_
            refine V_rw (show _ = (0 : Int32) from by decide) ?_
            refine V_goto 148 rfl dX11_two_143 ?_
            refine V_istore 150 [(5, .int 0), (4, .int 1), (8, .int 0), (7, .int 0), (6, .int 0), (0, rf G 69), (1, .int (nI v)), (2, .int y), (3, .int 1)] (by decide) rfl dX11_two_148 rfl ?_
            refine V_iinc 153 4 rfl 1 [(6, .int 1), (5, .int 0), (4, .int 1), (8, .int 0), (7, .int 0), (0, rf G 69), (1, .int (nI v)), (2, .int y), (3, .int 1)] (by decide) (by decide) rfl dX11_two_150 rfl ?_
            refine V_goto 59 rfl dX11_two_153 ?_
            refine V_iload 61 0 rfl dX11_two_59 rfl ?_
            refine V_iconst 62 (4) rfl dX11_two_61 rfl ?_
            refine V_icmp_ge 156 65 rfl dX11_two_62 rfl (fun c62 => absurd c62 (by decide)) (fun c62 => ?_)
            refine V_iload 67 0 rfl dX11_two_65 rfl ?_
            refine V_iconst 68 (2) rfl dX11_two_67 rfl ?_
            refine V_idiv 69 (by decide) dX11_two_68 rfl ?_
            refine V_rw (show _ = (0 : Int32) from by decide) ?_
            refine V_istore 71 [(7, .int 0), (6, .int 1), (5, .int 0), (4, .int 1), (8, .int 0), (0, rf G 69), (1, .int (nI v)), (2, .int y), (3, .int 1)] (by decide) rfl dX11_two_69 rfl ?_
            refine V_iload 73 1 rfl dX11_two_71 rfl ?_
            refine V_iconst 74 (2) rfl dX11_two_73 rfl ?_
            refine V_irem 75 (by decide) dX11_two_74 rfl ?_
            refine V_rw (show _ = (1 : Int32) from by decide) ?_
            refine V_istore 77 [(8, .int 1), (7, .int 0), (6, .int 1), (5, .int 0), (4, .int 1), (0, rf G 69), (1, .int (nI v)), (2, .int y), (3, .int 1)] (by decide) rfl dX11_two_75 rfl ?_
            refine V_iconst 78 (1) rfl dX11_two_77 rfl ?_
            refine V_iload 80 1 rfl dX11_two_78 rfl ?_
            refine V_isub 81 dX11_two_80 rfl ?_
            refine V_rw (show _ = (1 : Int32) from by decide) ?_
            refine V_iload 83 0 rfl dX11_two_81 rfl ?_
            refine V_iload_n 84 6 rfl rfl dX11_two_83 rfl ?_
            refine V_iload_n 85 7 rfl rfl dX11_two_84 rfl ?_
            refine V_callS (K' := 0) (S' := 0) 88 4 [.int 1, .int 1, .int (nI v), .int y] mkX11_hasBy lkX11_436 rfl (Nat.le_of_ble_eq_true rfl) (Nat.le_of_ble_eq_true rfl) (Nat.le_of_ble_eq_true rfl) (Nat.le_of_ble_eq_true rfl) rfl rfl dX11_two_85 rfl (c_X11_hasBy_11 ?_)
            rw [show haF 1 1 (nI v) y = y from rfl]
            refine Kq_i (k' := 0) (sl' := 0) rfl rfl ?_
            refine V_iload 90 1 rfl dX11_two_88 rfl ?_
            refine V_iload 92 0 rfl dX11_two_90 rfl ?_
            refine V_iload_n 93 6 rfl rfl dX11_two_92 rfl ?_
            refine V_iload_n 94 7 rfl rfl dX11_two_93 rfl ?_
            refine V_callS (K' := 0) (S' := 0) 97 4 [.int 0, .int 1, .int (nI v), .int y] mkX11_hasBy lkX11_436 rfl (Nat.le_of_ble_eq_true rfl) (Nat.le_of_ble_eq_true rfl) (Nat.le_of_ble_eq_true rfl) (Nat.le_of_ble_eq_true rfl) rfl rfl dX11_two_94 rfl (c_X11_hasBy_01 ?_)
            rw [show haF 0 1 (nI v) y = y from rfl]
            refine Kq_i (k' := 0) (sl' := 0) rfl rfl ?_
            refine V_icmp_gt 150 100 rfl dX11_two_97 rfl (fun c97 => absurd c97 (Int32.lt_irrefl)) (fun c97 => ?_)
            refine V_iconst 101 (1) rfl dX11_two_100 rfl ?_
            refine V_iload 103 0 rfl dX11_two_101 rfl ?_
            refine V_isub 104 dX11_two_103 rfl ?_
            refine V_rw (show _ = (0 : Int32) from by decide) ?_
            refine V_iload 106 1 rfl dX11_two_104 rfl ?_
            refine V_iload_n 107 6 rfl rfl dX11_two_106 rfl ?_
            refine V_iload_n 108 7 rfl rfl dX11_two_107 rfl ?_
            refine V_callS (K' := 0) (S' := 0) 111 4 [.int 0, .int 0, .int (nI v), .int y] mkX11_hasBy lkX11_436 rfl (Nat.le_of_ble_eq_true rfl) (Nat.le_of_ble_eq_true rfl) (Nat.le_of_ble_eq_true rfl) (Nat.le_of_ble_eq_true rfl) rfl rfl dX11_two_108 rfl (c_X11_hasBy_00 ?_)
            rw [show haF 0 0 (nI v) y = nI v from rfl]
            refine Kq_i (k' := 0) (sl' := 0) rfl rfl ?_
            refine V_iload 113 0 rfl dX11_two_111 rfl ?_
            refine V_iload 115 1 rfl dX11_two_113 rfl ?_
            refine V_iload_n 116 6 rfl rfl dX11_two_115 rfl ?_
            refine V_iload_n 117 7 rfl rfl dX11_two_116 rfl ?_
            refine V_callS (K' := 0) (S' := 0) 120 4 [.int 1, .int 0, .int (nI v), .int y] mkX11_hasBy lkX11_436 rfl (Nat.le_of_ble_eq_true rfl) (Nat.le_of_ble_eq_true rfl) (Nat.le_of_ble_eq_true rfl) (Nat.le_of_ble_eq_true rfl) rfl rfl dX11_two_117 rfl (c_X11_hasBy_10 ?_)
            rw [show haF 1 0 (nI v) y = nI v / 2 from rfl]
            refine Kq_i (k' := 0) (sl' := 0) rfl rfl ?_
            refine V_icmp_le 126 123 rfl dX11_two_120 rfl (fun c120 => absurd (half_lt v hv v0) (Int32.not_lt.mpr c120)) (fun c120 => ?_)
            refine V_goto 150 rfl dX11_two_123 ?_
            refine V_iinc 153 2 rfl 2 [(6, .int 2), (8, .int 1), (7, .int 0), (5, .int 0), (4, .int 1), (0, rf G 69), (1, .int (nI v)), (2, .int y), (3, .int 1)] (by decide) (by decide) rfl dX11_two_150 rfl ?_
            refine V_goto 59 rfl dX11_two_153 ?_
            refine V_iload 61 0 rfl dX11_two_59 rfl ?_
            refine V_iconst 62 (4) rfl dX11_two_61 rfl ?_
            refine V_icmp_ge 156 65 rfl dX11_two_62 rfl (fun c62 => absurd c62 (by decide)) (fun c62 => ?_)
            refine V_iload 67 0 rfl dX11_two_65 rfl ?_
            refine V_iconst 68 (2) rfl dX11_two_67 rfl ?_
            refine V_idiv 69 (by decide) dX11_two_68 rfl ?_
            refine V_rw (show _ = (1 : Int32) from by decide) ?_
            refine V_istore 71 [(7, .int 1), (6, .int 2), (8, .int 1), (5, .int 0), (4, .int 1), (0, rf G 69), (1, .int (nI v)), (2, .int y), (3, .int 1)] (by decide) rfl dX11_two_69 rfl ?_
            refine V_iload 73 1 rfl dX11_two_71 rfl ?_
            refine V_iconst 74 (2) rfl dX11_two_73 rfl ?_
            refine V_irem 75 (by decide) dX11_two_74 rfl ?_
            refine V_rw (show _ = (0 : Int32) from by decide) ?_
            refine V_istore 77 [(8, .int 0), (7, .int 1), (6, .int 2), (5, .int 0), (4, .int 1), (0, rf G 69), (1, .int (nI v)), (2, .int y), (3, .int 1)] (by decide) rfl dX11_two_75 rfl ?_
            refine V_iconst 78 (1) rfl dX11_two_77 rfl ?_
            refine V_iload 80 1 rfl dX11_two_78 rfl ?_
            refine V_isub 81 dX11_two_80 rfl ?_
            refine V_rw (show _ = (0 : Int32) from by decide) ?_
            refine V_iload 83 0 rfl dX11_two_81 rfl ?_
            refine V_iload_n 84 6 rfl rfl dX11_two_83 rfl ?_
            refine V_iload_n 85 7 rfl rfl dX11_two_84 rfl ?_
            refine V_callS (K' := 0) (S' := 0) 88 4 [.int 0, .int 0, .int (nI v), .int y] mkX11_hasBy lkX11_436 rfl (Nat.le_of_ble_eq_true rfl) (Nat.le_of_ble_eq_true rfl) (Nat.le_of_ble_eq_true rfl) (Nat.le_of_ble_eq_true rfl) rfl rfl dX11_two_85 rfl (c_X11_hasBy_00 ?_)
            rw [show haF 0 0 (nI v) y = nI v from rfl]
            refine Kq_i (k' := 0) (sl' := 0) rfl rfl ?_
            refine V_iload 90 1 rfl dX11_two_88 rfl ?_
            refine V_iload 92 0 rfl dX11_two_90 rfl ?_
            refine V_iload_n 93 6 rfl rfl dX11_two_92 rfl ?_
            refine V_iload_n 94 7 rfl rfl dX11_two_93 rfl ?_
            refine V_callS (K' := 0) (S' := 0) 97 4 [.int 1, .int 0, .int (nI v), .int y] mkX11_hasBy lkX11_436 rfl (Nat.le_of_ble_eq_true rfl) (Nat.le_of_ble_eq_true rfl) (Nat.le_of_ble_eq_true rfl) (Nat.le_of_ble_eq_true rfl) rfl rfl dX11_two_94 rfl (c_X11_hasBy_10 ?_)
            rw [show haF 1 0 (nI v) y = nI v / 2 from rfl]
            refine Kq_i (k' := 0) (sl' := 0) rfl rfl ?_
            refine V_icmp_gt 150 100 rfl dX11_two_97 rfl (fun c97 => ?_) (fun c97 => absurd (half_lt v hv v0) c97)
            refine V_iinc 153 2 rfl 3 [(6, .int 3), (8, .int 0), (7, .int 1), (5, .int 0), (4, .int 1), (0, rf G 69), (1, .int (nI v)), (2, .int y), (3, .int 1)] (by decide) (by decide) rfl dX11_two_150 rfl ?_
            refine V_goto 59 rfl dX11_two_153 ?_
            refine V_iload 61 0 rfl dX11_two_59 rfl ?_
            refine V_iconst 62 (4) rfl dX11_two_61 rfl ?_
            refine V_icmp_ge 156 65 rfl dX11_two_62 rfl (fun c62 => absurd c62 (by decide)) (fun c62 => ?_)
            refine V_iload 67 0 rfl dX11_two_65 rfl ?_
            refine V_iconst 68 (2) rfl dX11_two_67 rfl ?_
            refine V_idiv 69 (by decide) dX11_two_68 rfl ?_
            refine V_rw (show _ = (1 : Int32) from by decide) ?_
            refine V_istore 71 [(7, .int 1), (6, .int 3), (8, .int 0), (5, .int 0), (4, .int 1), (0, rf G 69), (1, .int (nI v)), (2, .int y), (3, .int 1)] (by decide) rfl dX11_two_69 rfl ?_
            refine V_iload 73 1 rfl dX11_two_71 rfl ?_
            refine V_iconst 74 (2) rfl dX11_two_73 rfl ?_
            refine V_irem 75 (by decide) dX11_two_74 rfl ?_
            refine V_rw (show _ = (1 : Int32) from by decide) ?_
            refine V_istore 77 [(8, .int 1), (7, .int 1), (6, .int 3), (5, .int 0), (4, .int 1), (0, rf G 69), (1, .int (nI v)), (2, .int y), (3, .int 1)] (by decide) rfl dX11_two_75 rfl ?_
            refine V_iconst 78 (1) rfl dX11_two_77 rfl ?_
            refine V_iload 80 1 rfl dX11_two_78 rfl ?_
            refine V_isub 81 dX11_two_80 rfl ?_
            refine V_rw (show _ = (0 : Int32) from by decide) ?_
            refine V_iload 83 0 rfl dX11_two_81 rfl ?_
            refine V_iload_n 84 6 rfl rfl dX11_two_83 rfl ?_
            refine V_iload_n 85 7 rfl rfl dX11_two_84 rfl ?_
            refine V_callS (K' := 0) (S' := 0) 88 4 [.int 0, .int 1, .int (nI v), .int y] mkX11_hasBy lkX11_436 rfl (Nat.le_of_ble_eq_true rfl) (Nat.le_of_ble_eq_true rfl) (Nat.le_of_ble_eq_true rfl) (Nat.le_of_ble_eq_true rfl) rfl rfl dX11_two_85 rfl (c_X11_hasBy_01 ?_)
            rw [show haF 0 1 (nI v) y = y from rfl]
            refine Kq_i (k' := 0) (sl' := 0) rfl rfl ?_
            refine V_iload 90 1 rfl dX11_two_88 rfl ?_
            refine V_iload 92 0 rfl dX11_two_90 rfl ?_
            refine V_iload_n 93 6 rfl rfl dX11_two_92 rfl ?_
            refine V_iload_n 94 7 rfl rfl dX11_two_93 rfl ?_
            refine V_callS (K' := 0) (S' := 0) 97 4 [.int 1, .int 1, .int (nI v), .int y] mkX11_hasBy lkX11_436 rfl (Nat.le_of_ble_eq_true rfl) (Nat.le_of_ble_eq_true rfl) (Nat.le_of_ble_eq_true rfl) (Nat.le_of_ble_eq_true rfl) rfl rfl dX11_two_94 rfl (c_X11_hasBy_11 ?_)
            rw [show haF 1 1 (nI v) y = y from rfl]
            refine Kq_i (k' := 0) (sl' := 0) rfl rfl ?_
            refine V_icmp_gt 150 100 rfl dX11_two_97 rfl (fun c97 => absurd c97 (Int32.lt_irrefl)) (fun c97 => ?_)
            refine V_iconst 101 (1) rfl dX11_two_100 rfl ?_
            refine V_iload 103 0 rfl dX11_two_101 rfl ?_
            refine V_isub 104 dX11_two_103 rfl ?_
            refine V_rw (show _ = (0 : Int32) from by decide) ?_
            refine V_iload 106 1 rfl dX11_two_104 rfl ?_
            refine V_iload_n 107 6 rfl rfl dX11_two_106 rfl ?_
            refine V_iload_n 108 7 rfl rfl dX11_two_107 rfl ?_
            refine V_callS (K' := 0) (S' := 0) 111 4 [.int 0, .int 1, .int (nI v), .int y] mkX11_hasBy lkX11_436 rfl (Nat.le_of_ble_eq_true rfl) (Nat.le_of_ble_eq_true rfl) (Nat.le_of_ble_eq_true rfl) (Nat.le_of_ble_eq_true rfl) rfl rfl dX11_two_108 rfl (c_X11_hasBy_01 ?_)
            rw [show haF 0 1 (nI v) y = y from rfl]
            refine Kq_i (k' := 0) (sl' := 0) rfl rfl ?_
            refine V_iload 113 0 rfl dX11_two_111 rfl ?_
            refine V_iload 115 1 rfl dX11_two_113 rfl ?_
            refine V_iload_n 116 6 rfl rfl dX11_two_115 rfl ?_
            refine V_iload_n 117 7 rfl rfl dX11_two_116 rfl ?_
            refine V_callS (K' := 0) (S' := 0) 120 4 [.int 1, .int 1, .int (nI v), .int y] mkX11_hasBy lkX11_436 rfl (Nat.le_of_ble_eq_true rfl) (Nat.le_of_ble_eq_true rfl) (Nat.le_of_ble_eq_true rfl) (Nat.le_of_ble_eq_true rfl) rfl rfl dX11_two_117 rfl (c_X11_hasBy_11 ?_)
            rw [show haF 1 1 (nI v) y = y from rfl]
            refine Kq_i (k' := 0) (sl' := 0) rfl rfl ?_
            refine V_icmp_le 126 123 rfl dX11_two_120 rfl (fun c120 => ?_) (fun c120 => absurd (Int32.le_refl _) c120)
            refine V_iinc 129 4 rfl 2 [(4, .int 2), (8, .int 1), (7, .int 1), (6, .int 3), (5, .int 0), (0, rf G 69), (1, .int (nI v)), (2, .int y), (3, .int 1)] (by decide) (by decide) rfl dX11_two_126 rfl ?_
            refine V_iload 131 4 rfl dX11_two_129 rfl ?_
            refine V_iconst 132 (-1) rfl dX11_two_131 rfl ?_
            refine V_icmp_ne 146 135 rfl dX11_two_132 rfl (fun c132 => ?_) (fun c132 => absurd c132 (by decide))
            refine V_iload 148 4 rfl dX11_two_146 rfl ?_
            refine V_istore 150 [(5, .int 0), (4, .int 2), (8, .int 1), (7, .int 1), (6, .int 3), (0, rf G 69), (1, .int (nI v)), (2, .int y), (3, .int 1)] (by decide) rfl dX11_two_148 rfl ?_
            refine V_iinc 153 4 rfl 4 [(6, .int 4), (5, .int 0), (4, .int 2), (8, .int 1), (7, .int 1), (0, rf G 69), (1, .int (nI v)), (2, .int y), (3, .int 1)] (by decide) (by decide) rfl dX11_two_150 rfl ?_
            refine V_goto 59 rfl dX11_two_153 ?_
            refine V_iload 61 0 rfl dX11_two_59 rfl ?_
            refine V_iconst 62 (4) rfl dX11_two_61 rfl ?_
            refine V_icmp_ge 156 65 rfl dX11_two_62 rfl (fun c62 => ?_) (fun c62 => absurd c62 (by decide))
            refine V_iload_n 157 8 rfl rfl dX11_two_156 rfl ?_
            refine V_if_ne 165 160 rfl dX11_two_157 rfl (fun c157 => ?_) (fun c157 => absurd c157 (by decide))
            refine V_iload_n 166 8 rfl rfl dX11_two_165 rfl ?_
            refine V_iconst 167 (1) rfl dX11_two_166 rfl ?_
            refine V_icmp_ne 175 170 rfl dX11_two_167 rfl (fun c167 => absurd c167 (by decide)) (fun c167 => ?_)
            refine V_iload 172 1 rfl dX11_two_170 rfl ?_
            refine V_goto 216 rfl dX11_two_172 ?_
            refine V_ret_i rfl rfl (Nat.le_of_ble_eq_true rfl) (fun h => absurd h (by decide)) (Nat.le_of_ble_eq_true rfl) (hq I0 hz) dX11_two_216
        · by_cases v0 : v = 0
          · rw [show twF (nI v) 2 = nI v + nI v from rfl] at hq
            show V _ _ _ _ _ _ _ _ [(0, rf G 69), (1, .int (nI v)), (2, .int y), (3, .int 2)] [] _ _ _ _ _
            refine V_iconst 51 (0) rfl dX11_two_50 rfl ?_
            refine V_istore 53 [(4, .int 0), (0, rf G 69), (1, .int (nI v)), (2, .int y), (3, .int 2)] (by decide) rfl dX11_two_51 rfl ?_
            refine V_iconst 54 (-1) rfl dX11_two_53 rfl ?_
            refine V_istore 56 [(5, .int (-1)), (4, .int 0), (0, rf G 69), (1, .int (nI v)), (2, .int y), (3, .int 2)] (by decide) rfl dX11_two_54 rfl ?_
            refine V_iconst 57 (0) rfl dX11_two_56 rfl ?_
            refine V_istore 59 [(6, .int 0), (5, .int (-1)), (4, .int 0), (0, rf G 69), (1, .int (nI v)), (2, .int y), (3, .int 2)] (by decide) rfl dX11_two_57 rfl ?_
            refine V_iload 61 0 rfl dX11_two_59 rfl ?_
            refine V_iconst 62 (4) rfl dX11_two_61 rfl ?_
            refine V_icmp_ge 156 65 rfl dX11_two_62 rfl (fun c62 => absurd c62 (by decide)) (fun c62 => ?_)
            refine V_iload 67 0 rfl dX11_two_65 rfl ?_
            refine V_iconst 68 (2) rfl dX11_two_67 rfl ?_
            refine V_idiv 69 (by decide) dX11_two_68 rfl ?_
            refine V_rw (show _ = (0 : Int32) from by decide) ?_
            refine V_istore 71 [(7, .int 0), (6, .int 0), (5, .int (-1)), (4, .int 0), (0, rf G 69), (1, .int (nI v)), (2, .int y), (3, .int 2)] (by decide) rfl dX11_two_69 rfl ?_
            refine V_iload 73 1 rfl dX11_two_71 rfl ?_
            refine V_iconst 74 (2) rfl dX11_two_73 rfl ?_
            refine V_irem 75 (by decide) dX11_two_74 rfl ?_
            refine V_rw (show _ = (0 : Int32) from by decide) ?_
            refine V_istore 77 [(8, .int 0), (7, .int 0), (6, .int 0), (5, .int (-1)), (4, .int 0), (0, rf G 69), (1, .int (nI v)), (2, .int y), (3, .int 2)] (by decide) rfl dX11_two_75 rfl ?_
            refine V_iconst 78 (1) rfl dX11_two_77 rfl ?_
            refine V_iload 80 1 rfl dX11_two_78 rfl ?_
            refine V_isub 81 dX11_two_80 rfl ?_
            refine V_rw (show _ = (1 : Int32) from by decide) ?_
            refine V_iload 83 0 rfl dX11_two_81 rfl ?_
            refine V_iload_n 84 6 rfl rfl dX11_two_83 rfl ?_
            refine V_iload_n 85 7 rfl rfl dX11_two_84 rfl ?_
            refine V_callS (K' := 0) (S' := 0) 88 4 [.int 1, .int 0, .int (nI v), .int y] mkX11_hasBy lkX11_436 rfl (Nat.le_of_ble_eq_true rfl) (Nat.le_of_ble_eq_true rfl) (Nat.le_of_ble_eq_true rfl) (Nat.le_of_ble_eq_true rfl) rfl rfl dX11_two_85 rfl (c_X11_hasBy_10 ?_)
            rw [show haF 1 0 (nI v) y = nI v / 2 from rfl]
            refine Kq_i (k' := 0) (sl' := 0) rfl rfl ?_
            refine V_iload 90 1 rfl dX11_two_88 rfl ?_
            refine V_iload 92 0 rfl dX11_two_90 rfl ?_
            refine V_iload_n 93 6 rfl rfl dX11_two_92 rfl ?_
            refine V_iload_n 94 7 rfl rfl dX11_two_93 rfl ?_
            refine V_callS (K' := 0) (S' := 0) 97 4 [.int 0, .int 0, .int (nI v), .int y] mkX11_hasBy lkX11_436 rfl (Nat.le_of_ble_eq_true rfl) (Nat.le_of_ble_eq_true rfl) (Nat.le_of_ble_eq_true rfl) (Nat.le_of_ble_eq_true rfl) rfl rfl dX11_two_94 rfl (c_X11_hasBy_00 ?_)
            rw [show haF 0 0 (nI v) y = nI v from rfl]
            refine Kq_i (k' := 0) (sl' := 0) rfl rfl ?_
            refine V_icmp_gt 150 100 rfl dX11_two_97 rfl (fun c97 => absurd c97 (half_le v hv)) (fun c97 => ?_)
            refine V_iconst 101 (1) rfl dX11_two_100 rfl ?_
            refine V_iload 103 0 rfl dX11_two_101 rfl ?_
            refine V_isub 104 dX11_two_103 rfl ?_
            refine V_rw (show _ = (1 : Int32) from by decide) ?_
            refine V_iload 106 1 rfl dX11_two_104 rfl ?_
            refine V_iload_n 107 6 rfl rfl dX11_two_106 rfl ?_
            refine V_iload_n 108 7 rfl rfl dX11_two_107 rfl ?_
            refine V_callS (K' := 0) (S' := 0) 111 4 [.int 1, .int 0, .int (nI v), .int y] mkX11_hasBy lkX11_436 rfl (Nat.le_of_ble_eq_true rfl) (Nat.le_of_ble_eq_true rfl) (Nat.le_of_ble_eq_true rfl) (Nat.le_of_ble_eq_true rfl) rfl rfl dX11_two_108 rfl (c_X11_hasBy_10 ?_)
            rw [show haF 1 0 (nI v) y = nI v / 2 from rfl]
            refine Kq_i (k' := 0) (sl' := 0) rfl rfl ?_
            refine V_iload 113 0 rfl dX11_two_111 rfl ?_
            refine V_iload 115 1 rfl dX11_two_113 rfl ?_
            refine V_iload_n 116 6 rfl rfl dX11_two_115 rfl ?_
            refine V_iload_n 117 7 rfl rfl dX11_two_116 rfl ?_
            refine V_callS (K' := 0) (S' := 0) 120 4 [.int 0, .int 0, .int (nI v), .int y] mkX11_hasBy lkX11_436 rfl (Nat.le_of_ble_eq_true rfl) (Nat.le_of_ble_eq_true rfl) (Nat.le_of_ble_eq_true rfl) (Nat.le_of_ble_eq_true rfl) rfl rfl dX11_two_117 rfl (c_X11_hasBy_00 ?_)
            rw [show haF 0 0 (nI v) y = nI v from rfl]
            refine Kq_i (k' := 0) (sl' := 0) rfl rfl ?_
            refine V_icmp_le 126 123 rfl dX11_two_120 rfl (fun c120 => ?_) (fun c120 => absurd (Int32.not_lt.mp (half_le v hv)) c120)
            refine V_iinc 129 4 rfl 1 [(4, .int 1), (8, .int 0), (7, .int 0), (6, .int 0), (5, .int (-1)), (0, rf G 69), (1, .int (nI v)), (2, .int y), (3, .int 2)] (by decide) (by decide) rfl dX11_two_126 rfl ?_
            refine V_iload 131 4 rfl dX11_two_129 rfl ?_
            refine V_iconst 132 (-1) rfl dX11_two_131 rfl ?_
            refine V_icmp_ne 146 135 rfl dX11_two_132 rfl (fun c132 => absurd c132 (by decide)) (fun c132 => ?_)
            refine V_bipush 137 (10) rfl dX11_two_135 rfl ?_
            refine V_iload 139 2 rfl dX11_two_137 rfl ?_
            refine V_imul 140 dX11_two_139 rfl ?_
            refine V_rw (show _ = (0 : Int32) from by decide) ?_
            refine V_iload 142 1 rfl dX11_two_140 rfl ?_
            refine V_iadd 143 dX11_two_142 rfl ?_
            refine V_rw (show _ = (0 : Int32) from by decide) ?_
            refine V_goto 148 rfl dX11_two_143 ?_
            refine V_istore 150 [(5, .int 0), (4, .int 1), (8, .int 0), (7, .int 0), (6, .int 0), (0, rf G 69), (1, .int (nI v)), (2, .int y), (3, .int 2)] (by decide) rfl dX11_two_148 rfl ?_
            refine V_iinc 153 4 rfl 1 [(6, .int 1), (5, .int 0), (4, .int 1), (8, .int 0), (7, .int 0), (0, rf G 69), (1, .int (nI v)), (2, .int y), (3, .int 2)] (by decide) (by decide) rfl dX11_two_150 rfl ?_
            refine V_goto 59 rfl dX11_two_153 ?_
            refine V_iload 61 0 rfl dX11_two_59 rfl ?_
            refine V_iconst 62 (4) rfl dX11_two_61 rfl ?_
            refine V_icmp_ge 156 65 rfl dX11_two_62 rfl (fun c62 => absurd c62 (by decide)) (fun c62 => ?_)
            refine V_iload 67 0 rfl dX11_two_65 rfl ?_
            refine V_iconst 68 (2) rfl dX11_two_67 rfl ?_
            refine V_idiv 69 (by decide) dX11_two_68 rfl ?_
            refine V_rw (show _ = (0 : Int32) from by decide) ?_
            refine V_istore 71 [(7, .int 0), (6, .int 1), (5, .int 0), (4, .int 1), (8, .int 0), (0, rf G 69), (1, .int (nI v)), (2, .int y), (3, .int 2)] (by decide) rfl dX11_two_69 rfl ?_
            refine V_iload 73 1 rfl dX11_two_71 rfl ?_
            refine V_iconst 74 (2) rfl dX11_two_73 rfl ?_
            refine V_irem 75 (by decide) dX11_two_74 rfl ?_
            refine V_rw (show _ = (1 : Int32) from by decide) ?_
            refine V_istore 77 [(8, .int 1), (7, .int 0), (6, .int 1), (5, .int 0), (4, .int 1), (0, rf G 69), (1, .int (nI v)), (2, .int y), (3, .int 2)] (by decide) rfl dX11_two_75 rfl ?_
            refine V_iconst 78 (1) rfl dX11_two_77 rfl ?_
            refine V_iload 80 1 rfl dX11_two_78 rfl ?_
            refine V_isub 81 dX11_two_80 rfl ?_
            refine V_rw (show _ = (1 : Int32) from by decide) ?_
            refine V_iload 83 0 rfl dX11_two_81 rfl ?_
            refine V_iload_n 84 6 rfl rfl dX11_two_83 rfl ?_
            refine V_iload_n 85 7 rfl rfl dX11_two_84 rfl ?_
            refine V_callS (K' := 0) (S' := 0) 88 4 [.int 1, .int 1, .int (nI v), .int y] mkX11_hasBy lkX11_436 rfl (Nat.le_of_ble_eq_true rfl) (Nat.le_of_ble_eq_true rfl) (Nat.le_of_ble_eq_true rfl) (Nat.le_of_ble_eq_true rfl) rfl rfl dX11_two_85 rfl (c_X11_hasBy_11 ?_)
            rw [show haF 1 1 (nI v) y = y from rfl]
            refine Kq_i (k' := 0) (sl' := 0) rfl rfl ?_
            refine V_iload 90 1 rfl dX11_two_88 rfl ?_
            refine V_iload 92 0 rfl dX11_two_90 rfl ?_
            refine V_iload_n 93 6 rfl rfl dX11_two_92 rfl ?_
            refine V_iload_n 94 7 rfl rfl dX11_two_93 rfl ?_
            refine V_callS (K' := 0) (S' := 0) 97 4 [.int 0, .int 1, .int (nI v), .int y] mkX11_hasBy lkX11_436 rfl (Nat.le_of_ble_eq_true rfl) (Nat.le_of_ble_eq_true rfl) (Nat.le_of_ble_eq_true rfl) (Nat.le_of_ble_eq_true rfl) rfl rfl dX11_two_94 rfl (c_X11_hasBy_01 ?_)
            rw [show haF 0 1 (nI v) y = y from rfl]
            refine Kq_i (k' := 0) (sl' := 0) rfl rfl ?_
            refine V_icmp_gt 150 100 rfl dX11_two_97 rfl (fun c97 => absurd c97 (Int32.lt_irrefl)) (fun c97 => ?_)
            refine V_iconst 101 (1) rfl dX11_two_100 rfl ?_
            refine V_iload 103 0 rfl dX11_two_101 rfl ?_
            refine V_isub 104 dX11_two_103 rfl ?_
            refine V_rw (show _ = (0 : Int32) from by decide) ?_
            refine V_iload 106 1 rfl dX11_two_104 rfl ?_
            refine V_iload_n 107 6 rfl rfl dX11_two_106 rfl ?_
            refine V_iload_n 108 7 rfl rfl dX11_two_107 rfl ?_
            refine V_callS (K' := 0) (S' := 0) 111 4 [.int 0, .int 0, .int (nI v), .int y] mkX11_hasBy lkX11_436 rfl (Nat.le_of_ble_eq_true rfl) (Nat.le_of_ble_eq_true rfl) (Nat.le_of_ble_eq_true rfl) (Nat.le_of_ble_eq_true rfl) rfl rfl dX11_two_108 rfl (c_X11_hasBy_00 ?_)
            rw [show haF 0 0 (nI v) y = nI v from rfl]
            refine Kq_i (k' := 0) (sl' := 0) rfl rfl ?_
            refine V_iload 113 0 rfl dX11_two_111 rfl ?_
            refine V_iload 115 1 rfl dX11_two_113 rfl ?_
            refine V_iload_n 116 6 rfl rfl dX11_two_115 rfl ?_
            refine V_iload_n 117 7 rfl rfl dX11_two_116 rfl ?_
            refine V_callS (K' := 0) (S' := 0) 120 4 [.int 1, .int 0, .int (nI v), .int y] mkX11_hasBy lkX11_436 rfl (Nat.le_of_ble_eq_true rfl) (Nat.le_of_ble_eq_true rfl) (Nat.le_of_ble_eq_true rfl) (Nat.le_of_ble_eq_true rfl) rfl rfl dX11_two_117 rfl (c_X11_hasBy_10 ?_)
            rw [show haF 1 0 (nI v) y = nI v / 2 from rfl]
            refine Kq_i (k' := 0) (sl' := 0) rfl rfl ?_
            refine V_icmp_le 126 123 rfl dX11_two_120 rfl (fun c120 => ?_) (fun c120 => absurd (by rw [v0]; decide) c120)
            refine V_iinc 129 4 rfl 2 [(4, .int 2), (8, .int 1), (7, .int 0), (6, .int 1), (5, .int 0), (0, rf G 69), (1, .int (nI v)), (2, .int y), (3, .int 2)] (by decide) (by decide) rfl dX11_two_126 rfl ?_
            refine V_iload 131 4 rfl dX11_two_129 rfl ?_
            refine V_iconst 132 (-1) rfl dX11_two_131 rfl ?_
            refine V_icmp_ne 146 135 rfl dX11_two_132 rfl (fun c132 => ?_) (fun c132 => absurd c132 (by decide))
            refine V_iload 148 4 rfl dX11_two_146 rfl ?_
            refine V_istore 150 [(5, .int 0), (4, .int 2), (8, .int 1), (7, .int 0), (6, .int 1), (0, rf G 69), (1, .int (nI v)), (2, .int y), (3, .int 2)] (by decide) rfl dX11_two_148 rfl ?_
            refine V_iinc 153 4 rfl 2 [(6, .int 2), (5, .int 0), (4, .int 2), (8, .int 1), (7, .int 0), (0, rf G 69), (1, .int (nI v)), (2, .int y), (3, .int 2)] (by decide) (by decide) rfl dX11_two_150 rfl ?_
            refine V_goto 59 rfl dX11_two_153 ?_
            refine V_iload 61 0 rfl dX11_two_59 rfl ?_
            refine V_iconst 62 (4) rfl dX11_two_61 rfl ?_
            refine V_icmp_ge 156 65 rfl dX11_two_62 rfl (fun c62 => absurd c62 (by decide)) (fun c62 => ?_)
            refine V_iload 67 0 rfl dX11_two_65 rfl ?_
            refine V_iconst 68 (2) rfl dX11_two_67 rfl ?_
            refine V_idiv 69 (by decide) dX11_two_68 rfl ?_
            refine V_rw (show _ = (1 : Int32) from by decide) ?_
            refine V_istore 71 [(7, .int 1), (6, .int 2), (5, .int 0), (4, .int 2), (8, .int 1), (0, rf G 69), (1, .int (nI v)), (2, .int y), (3, .int 2)] (by decide) rfl dX11_two_69 rfl ?_
            refine V_iload 73 1 rfl dX11_two_71 rfl ?_
            refine V_iconst 74 (2) rfl dX11_two_73 rfl ?_
            refine V_irem 75 (by decide) dX11_two_74 rfl ?_
            refine V_rw (show _ = (0 : Int32) from by decide) ?_
            refine V_istore 77 [(8, .int 0), (7, .int 1), (6, .int 2), (5, .int 0), (4, .int 2), (0, rf G 69), (1, .int (nI v)), (2, .int y), (3, .int 2)] (by decide) rfl dX11_two_75 rfl ?_
            refine V_iconst 78 (1) rfl dX11_two_77 rfl ?_
            refine V_iload 80 1 rfl dX11_two_78 rfl ?_
            refine V_isub 81 dX11_two_80 rfl ?_
            refine V_rw (show _ = (0 : Int32) from by decide) ?_
            refine V_iload 83 0 rfl dX11_two_81 rfl ?_
            refine V_iload_n 84 6 rfl rfl dX11_two_83 rfl ?_
            refine V_iload_n 85 7 rfl rfl dX11_two_84 rfl ?_
            refine V_callS (K' := 0) (S' := 0) 88 4 [.int 0, .int 0, .int (nI v), .int y] mkX11_hasBy lkX11_436 rfl (Nat.le_of_ble_eq_true rfl) (Nat.le_of_ble_eq_true rfl) (Nat.le_of_ble_eq_true rfl) (Nat.le_of_ble_eq_true rfl) rfl rfl dX11_two_85 rfl (c_X11_hasBy_00 ?_)
            rw [show haF 0 0 (nI v) y = nI v from rfl]
            refine Kq_i (k' := 0) (sl' := 0) rfl rfl ?_
            refine V_iload 90 1 rfl dX11_two_88 rfl ?_
            refine V_iload 92 0 rfl dX11_two_90 rfl ?_
            refine V_iload_n 93 6 rfl rfl dX11_two_92 rfl ?_
            refine V_iload_n 94 7 rfl rfl dX11_two_93 rfl ?_
            refine V_callS (K' := 0) (S' := 0) 97 4 [.int 1, .int 0, .int (nI v), .int y] mkX11_hasBy lkX11_436 rfl (Nat.le_of_ble_eq_true rfl) (Nat.le_of_ble_eq_true rfl) (Nat.le_of_ble_eq_true rfl) (Nat.le_of_ble_eq_true rfl) rfl rfl dX11_two_94 rfl (c_X11_hasBy_10 ?_)
            rw [show haF 1 0 (nI v) y = nI v / 2 from rfl]
            refine Kq_i (k' := 0) (sl' := 0) rfl rfl ?_
            refine V_icmp_gt 150 100 rfl dX11_two_97 rfl (fun c97 => absurd c97 (by rw [v0]; decide)) (fun c97 => ?_)
            refine V_iconst 101 (1) rfl dX11_two_100 rfl ?_
            refine V_iload 103 0 rfl dX11_two_101 rfl ?_
            refine V_isub 104 dX11_two_103 rfl ?_
            refine V_rw (show _ = (1 : Int32) from by decide) ?_
            refine V_iload 106 1 rfl dX11_two_104 rfl ?_
            refine V_iload_n 107 6 rfl rfl dX11_two_106 rfl ?_
            refine V_iload_n 108 7 rfl rfl dX11_two_107 rfl ?_
            refine V_callS (K' := 0) (S' := 0) 111 4 [.int 1, .int 1, .int (nI v), .int y] mkX11_hasBy lkX11_436 rfl (Nat.le_of_ble_eq_true rfl) (Nat.le_of_ble_eq_true rfl) (Nat.le_of_ble_eq_true rfl) (Nat.le_of_ble_eq_true rfl) rfl rfl dX11_two_108 rfl (c_X11_hasBy_11 ?_)
            rw [show haF 1 1 (nI v) y = y from rfl]
            refine Kq_i (k' := 0) (sl' := 0) rfl rfl ?_
            refine V_iload 113 0 rfl dX11_two_111 rfl ?_
            refine V_iload 115 1 rfl dX11_two_113 rfl ?_
            refine V_iload_n 116 6 rfl rfl dX11_two_115 rfl ?_
            refine V_iload_n 117 7 rfl rfl dX11_two_116 rfl ?_
            refine V_callS (K' := 0) (S' := 0) 120 4 [.int 0, .int 1, .int (nI v), .int y] mkX11_hasBy lkX11_436 rfl (Nat.le_of_ble_eq_true rfl) (Nat.le_of_ble_eq_true rfl) (Nat.le_of_ble_eq_true rfl) (Nat.le_of_ble_eq_true rfl) rfl rfl dX11_two_117 rfl (c_X11_hasBy_01 ?_)
            rw [show haF 0 1 (nI v) y = y from rfl]
            refine Kq_i (k' := 0) (sl' := 0) rfl rfl ?_
            refine V_icmp_le 126 123 rfl dX11_two_120 rfl (fun c120 => ?_) (fun c120 => absurd (Int32.le_refl _) c120)
            refine V_iinc 129 4 rfl 3 [(4, .int 3), (8, .int 0), (7, .int 1), (6, .int 2), (5, .int 0), (0, rf G 69), (1, .int (nI v)), (2, .int y), (3, .int 2)] (by decide) (by decide) rfl dX11_two_126 rfl ?_
            refine V_iload 131 4 rfl dX11_two_129 rfl ?_
            refine V_iconst 132 (-1) rfl dX11_two_131 rfl ?_
            refine V_icmp_ne 146 135 rfl dX11_two_132 rfl (fun c132 => ?_) (fun c132 => absurd c132 (by decide))
            refine V_iload 148 4 rfl dX11_two_146 rfl ?_
            refine V_istore 150 [(5, .int 0), (4, .int 3), (8, .int 0), (7, .int 1), (6, .int 2), (0, rf G 69), (1, .int (nI v)), (2, .int y), (3, .int 2)] (by decide) rfl dX11_two_148 rfl ?_
            refine V_iinc 153 4 rfl 3 [(6, .int 3), (5, .int 0), (4, .int 3), (8, .int 0), (7, .int 1), (0, rf G 69), (1, .int (nI v)), (2, .int y), (3, .int 2)] (by decide) (by decide) rfl dX11_two_150 rfl ?_
            refine V_goto 59 rfl dX11_two_153 ?_
            refine V_iload 61 0 rfl dX11_two_59 rfl ?_
            refine V_iconst 62 (4) rfl dX11_two_61 rfl ?_
            refine V_icmp_ge 156 65 rfl dX11_two_62 rfl (fun c62 => absurd c62 (by decide)) (fun c62 => ?_)
            refine V_iload 67 0 rfl dX11_two_65 rfl ?_
            refine V_iconst 68 (2) rfl dX11_two_67 rfl ?_
            refine V_idiv 69 (by decide) dX11_two_68 rfl ?_
            refine V_rw (show _ = (1 : Int32) from by decide) ?_
            refine V_istore 71 [(7, .int 1), (6, .int 3), (5, .int 0), (4, .int 3), (8, .int 0), (0, rf G 69), (1, .int (nI v)), (2, .int y), (3, .int 2)] (by decide) rfl dX11_two_69 rfl ?_
            refine V_iload 73 1 rfl dX11_two_71 rfl ?_
            refine V_iconst 74 (2) rfl dX11_two_73 rfl ?_
            refine V_irem 75 (by decide) dX11_two_74 rfl ?_
            refine V_rw (show _ = (1 : Int32) from by decide) ?_
            refine V_istore 77 [(8, .int 1), (7, .int 1), (6, .int 3), (5, .int 0), (4, .int 3), (0, rf G 69), (1, .int (nI v)), (2, .int y), (3, .int 2)] (by decide) rfl dX11_two_75 rfl ?_
            refine V_iconst 78 (1) rfl dX11_two_77 rfl ?_
            refine V_iload 80 1 rfl dX11_two_78 rfl ?_
            refine V_isub 81 dX11_two_80 rfl ?_
            refine V_rw (show _ = (0 : Int32) from by decide) ?_
            refine V_iload 83 0 rfl dX11_two_81 rfl ?_
            refine V_iload_n 84 6 rfl rfl dX11_two_83 rfl ?_
            refine V_iload_n 85 7 rfl rfl dX11_two_84 rfl ?_
            refine V_callS (K' := 0) (S' := 0) 88 4 [.int 0, .int 1, .int (nI v), .int y] mkX11_hasBy lkX11_436 rfl (Nat.le_of_ble_eq_true rfl) (Nat.le_of_ble_eq_true rfl) (Nat.le_of_ble_eq_true rfl) (Nat.le_of_ble_eq_true rfl) rfl rfl dX11_two_85 rfl (c_X11_hasBy_01 ?_)
            rw [show haF 0 1 (nI v) y = y from rfl]
            refine Kq_i (k' := 0) (sl' := 0) rfl rfl ?_
            refine V_iload 90 1 rfl dX11_two_88 rfl ?_
            refine V_iload 92 0 rfl dX11_two_90 rfl ?_
            refine V_iload_n 93 6 rfl rfl dX11_two_92 rfl ?_
            refine V_iload_n 94 7 rfl rfl dX11_two_93 rfl ?_
            refine V_callS (K' := 0) (S' := 0) 97 4 [.int 1, .int 1, .int (nI v), .int y] mkX11_hasBy lkX11_436 rfl (Nat.le_of_ble_eq_true rfl) (Nat.le_of_ble_eq_true rfl) (Nat.le_of_ble_eq_true rfl) (Nat.le_of_ble_eq_true rfl) rfl rfl dX11_two_94 rfl (c_X11_hasBy_11 ?_)
            rw [show haF 1 1 (nI v) y = y from rfl]
            refine Kq_i (k' := 0) (sl' := 0) rfl rfl ?_
            refine V_icmp_gt 150 100 rfl dX11_two_97 rfl (fun c97 => absurd c97 (Int32.lt_irrefl)) (fun c97 => ?_)
            refine V_iconst 101 (1) rfl dX11_two_100 rfl ?_
            refine V_iload 103 0 rfl dX11_two_101 rfl ?_
            refine V_isub 104 dX11_two_103 rfl ?_
            refine V_rw (show _ = (0 : Int32) from by decide) ?_
            refine V_iload 106 1 rfl dX11_two_104 rfl ?_
            refine V_iload_n 107 6 rfl rfl dX11_two_106 rfl ?_
            refine V_iload_n 108 7 rfl rfl dX11_two_107 rfl ?_
            refine V_callS (K' := 0) (S' := 0) 111 4 [.int 0, .int 1, .int (nI v), .int y] mkX11_hasBy lkX11_436 rfl (Nat.le_of_ble_eq_true rfl) (Nat.le_of_ble_eq_true rfl) (Nat.le_of_ble_eq_true rfl) (Nat.le_of_ble_eq_true rfl) rfl rfl dX11_two_108 rfl (c_X11_hasBy_01 ?_)
            rw [show haF 0 1 (nI v) y = y from rfl]
            refine Kq_i (k' := 0) (sl' := 0) rfl rfl ?_
            refine V_iload 113 0 rfl dX11_two_111 rfl ?_
            refine V_iload 115 1 rfl dX11_two_113 rfl ?_
            refine V_iload_n 116 6 rfl rfl dX11_two_115 rfl ?_
            refine V_iload_n 117 7 rfl rfl dX11_two_116 rfl ?_
            refine V_callS (K' := 0) (S' := 0) 120 4 [.int 1, .int 1, .int (nI v), .int y] mkX11_hasBy lkX11_436 rfl (Nat.le_of_ble_eq_true rfl) (Nat.le_of_ble_eq_true rfl) (Nat.le_of_ble_eq_true rfl) (Nat.le_of_ble_eq_true rfl) rfl rfl dX11_two_117 rfl (c_X11_hasBy_11 ?_)
            rw [show haF 1 1 (nI v) y = y from rfl]
            refine Kq_i (k' := 0) (sl' := 0) rfl rfl ?_
            refine V_icmp_le 126 123 rfl dX11_two_120 rfl (fun c120 => ?_) (fun c120 => absurd (Int32.le_refl _) c120)
            refine V_iinc 129 4 rfl 4 [(4, .int 4), (8, .int 1), (7, .int 1), (6, .int 3), (5, .int 0), (0, rf G 69), (1, .int (nI v)), (2, .int y), (3, .int 2)] (by decide) (by decide) rfl dX11_two_126 rfl ?_
            refine V_iload 131 4 rfl dX11_two_129 rfl ?_
            refine V_iconst 132 (-1) rfl dX11_two_131 rfl ?_
            refine V_icmp_ne 146 135 rfl dX11_two_132 rfl (fun c132 => ?_) (fun c132 => absurd c132 (by decide))
            refine V_iload 148 4 rfl dX11_two_146 rfl ?_
            refine V_istore 150 [(5, .int 0), (4, .int 4), (8, .int 1), (7, .int 1), (6, .int 3), (0, rf G 69), (1, .int (nI v)), (2, .int y), (3, .int 2)] (by decide) rfl dX11_two_148 rfl ?_
            refine V_iinc 153 4 rfl 4 [(6, .int 4), (5, .int 0), (4, .int 4), (8, .int 1), (7, .int 1), (0, rf G 69), (1, .int (nI v)), (2, .int y), (3, .int 2)] (by decide) (by decide) rfl dX11_two_150 rfl ?_
            refine V_goto 59 rfl dX11_two_153 ?_
            refine V_iload 61 0 rfl dX11_two_59 rfl ?_
            refine V_iconst 62 (4) rfl dX11_two_61 rfl ?_
            refine V_icmp_ge 156 65 rfl dX11_two_62 rfl (fun c62 => ?_) (fun c62 => absurd c62 (by decide))
            refine V_iload_n 157 8 rfl rfl dX11_two_156 rfl ?_
            refine V_if_ne 165 160 rfl dX11_two_157 rfl (fun c157 => ?_) (fun c157 => absurd c157 (by decide))
            refine V_iload_n 166 8 rfl rfl dX11_two_165 rfl ?_
            refine V_iconst 167 (1) rfl dX11_two_166 rfl ?_
            refine V_icmp_ne 175 170 rfl dX11_two_167 rfl (fun c167 => ?_) (fun c167 => absurd c167 (by decide))
            refine V_iload 177 1 rfl dX11_two_175 rfl ?_
            refine V_iconst 178 (-1) rfl dX11_two_177 rfl ?_
            refine V_icmp_ne 185 181 rfl dX11_two_178 rfl (fun c178 => ?_) (fun c178 => absurd c178 (by decide))
            refine V_iload 187 1 rfl dX11_two_185 rfl ?_
            refine V_bipush 189 (10) rfl dX11_two_187 rfl ?_
            refine V_idiv 190 (by decide) dX11_two_189 rfl ?_
            refine V_rw (show _ = (0 : Int32) from by decide) ?_
            refine V_iload 192 1 rfl dX11_two_190 rfl ?_
            refine V_bipush 194 (10) rfl dX11_two_192 rfl ?_
            refine V_irem 195 (by decide) dX11_two_194 rfl ?_
            refine V_rw (show _ = (0 : Int32) from by decide) ?_
            refine V_iload_n 196 6 rfl rfl dX11_two_195 rfl ?_
            refine V_iload_n 197 7 rfl rfl dX11_two_196 rfl ?_
            refine V_callS (K' := 0) (S' := 0) 200 4 [.int 0, .int 0, .int (nI v), .int y] mkX11_hasBy lkX11_436 rfl (Nat.le_of_ble_eq_true rfl) (Nat.le_of_ble_eq_true rfl) (Nat.le_of_ble_eq_true rfl) (Nat.le_of_ble_eq_true rfl) rfl rfl dX11_two_197 rfl (c_X11_hasBy_00 ?_)
            rw [show haF 0 0 (nI v) y = nI v from rfl]
            refine Kq_i (k' := 0) (sl' := 0) rfl rfl ?_
            refine V_iload 202 1 rfl dX11_two_200 rfl ?_
            refine V_bipush 204 (10) rfl dX11_two_202 rfl ?_
            refine V_irem 205 (by decide) dX11_two_204 rfl ?_
            refine V_rw (show _ = (0 : Int32) from by decide) ?_
            refine V_iload 207 1 rfl dX11_two_205 rfl ?_
            refine V_bipush 209 (10) rfl dX11_two_207 rfl ?_
            refine V_idiv 210 (by decide) dX11_two_209 rfl ?_
            refine V_rw (show _ = (0 : Int32) from by decide) ?_
            refine V_iload_n 211 6 rfl rfl dX11_two_210 rfl ?_
            refine V_iload_n 212 7 rfl rfl dX11_two_211 rfl ?_
            refine V_callS (K' := 0) (S' := 0) 215 4 [.int 0, .int 0, .int (nI v), .int y] mkX11_hasBy lkX11_436 rfl (Nat.le_of_ble_eq_true rfl) (Nat.le_of_ble_eq_true rfl) (Nat.le_of_ble_eq_true rfl) (Nat.le_of_ble_eq_true rfl) rfl rfl dX11_two_212 rfl (c_X11_hasBy_00 ?_)
            rw [show haF 0 0 (nI v) y = nI v from rfl]
            refine Kq_i (k' := 0) (sl' := 0) rfl rfl ?_
            refine V_iadd 216 dX11_two_215 rfl ?_
            refine V_ret_i rfl rfl (Nat.le_of_ble_eq_true rfl) (fun h => absurd h (by decide)) (Nat.le_of_ble_eq_true rfl) (hq I0 hz) dX11_two_216
          · rw [show twF (nI v) 2 = nI v + nI v from rfl] at hq
            show V _ _ _ _ _ _ _ _ [(0, rf G 69), (1, .int (nI v)), (2, .int y), (3, .int 2)] [] _ _ _ _ _
            refine V_iconst 51 (0) rfl dX11_two_50 rfl ?_
            refine V_istore 53 [(4, .int 0), (0, rf G 69), (1, .int (nI v)), (2, .int y), (3, .int 2)] (by decide) rfl dX11_two_51 rfl ?_
            refine V_iconst 54 (-1) rfl dX11_two_53 rfl ?_
            refine V_istore 56 [(5, .int (-1)), (4, .int 0), (0, rf G 69), (1, .int (nI v)), (2, .int y), (3, .int 2)] (by decide) rfl dX11_two_54 rfl ?_
            refine V_iconst 57 (0) rfl dX11_two_56 rfl ?_
            refine V_istore 59 [(6, .int 0), (5, .int (-1)), (4, .int 0), (0, rf G 69), (1, .int (nI v)), (2, .int y), (3, .int 2)] (by decide) rfl dX11_two_57 rfl ?_
            refine V_iload 61 0 rfl dX11_two_59 rfl ?_
            refine V_iconst 62 (4) rfl dX11_two_61 rfl ?_
            refine V_icmp_ge 156 65 rfl dX11_two_62 rfl (fun c62 => absurd c62 (by decide)) (fun c62 => ?_)
            refine V_iload 67 0 rfl dX11_two_65 rfl ?_
            refine V_iconst 68 (2) rfl dX11_two_67 rfl ?_
            refine V_idiv 69 (by decide) dX11_two_68 rfl ?_
            refine V_rw (show _ = (0 : Int32) from by decide) ?_
            refine V_istore 71 [(7, .int 0), (6, .int 0), (5, .int (-1)), (4, .int 0), (0, rf G 69), (1, .int (nI v)), (2, .int y), (3, .int 2)] (by decide) rfl dX11_two_69 rfl ?_
            refine V_iload 73 1 rfl dX11_two_71 rfl ?_
            refine V_iconst 74 (2) rfl dX11_two_73 rfl ?_
            refine V_irem 75 (by decide) dX11_two_74 rfl ?_
            refine V_rw (show _ = (0 : Int32) from by decide) ?_
            refine V_istore 77 [(8, .int 0), (7, .int 0), (6, .int 0), (5, .int (-1)), (4, .int 0), (0, rf G 69), (1, .int (nI v)), (2, .int y), (3, .int 2)] (by decide) rfl dX11_two_75 rfl ?_
            refine V_iconst 78 (1) rfl dX11_two_77 rfl ?_
            refine V_iload 80 1 rfl dX11_two_78 rfl ?_
            refine V_isub 81 dX11_two_80 rfl ?_
            refine V_rw (show _ = (1 : Int32) from by decide) ?_
            refine V_iload 83 0 rfl dX11_two_81 rfl ?_
            refine V_iload_n 84 6 rfl rfl dX11_two_83 rfl ?_
            refine V_iload_n 85 7 rfl rfl dX11_two_84 rfl ?_
            refine V_callS (K' := 0) (S' := 0) 88 4 [.int 1, .int 0, .int (nI v), .int y] mkX11_hasBy lkX11_436 rfl (Nat.le_of_ble_eq_true rfl) (Nat.le_of_ble_eq_true rfl) (Nat.le_of_ble_eq_true rfl) (Nat.le_of_ble_eq_true rfl) rfl rfl dX11_two_85 rfl (c_X11_hasBy_10 ?_)
            rw [show haF 1 0 (nI v) y = nI v / 2 from rfl]
            refine Kq_i (k' := 0) (sl' := 0) rfl rfl ?_
            refine V_iload 90 1 rfl dX11_two_88 rfl ?_
            refine V_iload 92 0 rfl dX11_two_90 rfl ?_
            refine V_iload_n 93 6 rfl rfl dX11_two_92 rfl ?_
            refine V_iload_n 94 7 rfl rfl dX11_two_93 rfl ?_
            refine V_callS (K' := 0) (S' := 0) 97 4 [.int 0, .int 0, .int (nI v), .int y] mkX11_hasBy lkX11_436 rfl (Nat.le_of_ble_eq_true rfl) (Nat.le_of_ble_eq_true rfl) (Nat.le_of_ble_eq_true rfl) (Nat.le_of_ble_eq_true rfl) rfl rfl dX11_two_94 rfl (c_X11_hasBy_00 ?_)
            rw [show haF 0 0 (nI v) y = nI v from rfl]
            refine Kq_i (k' := 0) (sl' := 0) rfl rfl ?_
            refine V_icmp_gt 150 100 rfl dX11_two_97 rfl (fun c97 => absurd c97 (half_le v hv)) (fun c97 => ?_)
            refine V_iconst 101 (1) rfl dX11_two_100 rfl ?_
            refine V_iload 103 0 rfl dX11_two_101 rfl ?_
            refine V_isub 104 dX11_two_103 rfl ?_
            refine V_rw (show _ = (1 : Int32) from by decide) ?_
            refine V_iload 106 1 rfl dX11_two_104 rfl ?_
            refine V_iload_n 107 6 rfl rfl dX11_two_106 rfl ?_
            refine V_iload_n 108 7 rfl rfl dX11_two_107 rfl ?_
            refine V_callS (K' := 0) (S' := 0) 111 4 [.int 1, .int 0, .int (nI v), .int y] mkX11_hasBy lkX11_436 rfl (Nat.le_of_ble_eq_true rfl) (Nat.le_of_ble_eq_true rfl) (Nat.le_of_ble_eq_true rfl) (Nat.le_of_ble_eq_true rfl) rfl rfl dX11_two_108 rfl (c_X11_hasBy_10 ?_)
            rw [show haF 1 0 (nI v) y = nI v / 2 from rfl]
            refine Kq_i (k' := 0) (sl' := 0) rfl rfl ?_
            refine V_iload 113 0 rfl dX11_two_111 rfl ?_
            refine V_iload 115 1 rfl dX11_two_113 rfl ?_
            refine V_iload_n 116 6 rfl rfl dX11_two_115 rfl ?_
            refine V_iload_n 117 7 rfl rfl dX11_two_116 rfl ?_
            refine V_callS (K' := 0) (S' := 0) 120 4 [.int 0, .int 0, .int (nI v), .int y] mkX11_hasBy lkX11_436 rfl (Nat.le_of_ble_eq_true rfl) (Nat.le_of_ble_eq_true rfl) (Nat.le_of_ble_eq_true rfl) (Nat.le_of_ble_eq_true rfl) rfl rfl dX11_two_117 rfl (c_X11_hasBy_00 ?_)
            rw [show haF 0 0 (nI v) y = nI v from rfl]
            refine Kq_i (k' := 0) (sl' := 0) rfl rfl ?_
            refine V_icmp_le 126 123 rfl dX11_two_120 rfl (fun c120 => ?_) (fun c120 => absurd (Int32.not_lt.mp (half_le v hv)) c120)
            refine V_iinc 129 4 rfl 1 [(4, .int 1), (8, .int 0), (7, .int 0), (6, .int 0), (5, .int (-1)), (0, rf G 69), (1, .int (nI v)), (2, .int y), (3, .int 2)] (by decide) (by decide) rfl dX11_two_126 rfl ?_
            refine V_iload 131 4 rfl dX11_two_129 rfl ?_
            refine V_iconst 132 (-1) rfl dX11_two_131 rfl ?_
            refine V_icmp_ne 146 135 rfl dX11_two_132 rfl (fun c132 => absurd c132 (by decide)) (fun c132 => ?_)
            refine V_bipush 137 (10) rfl dX11_two_135 rfl ?_
            refine V_iload 139 2 rfl dX11_two_137 rfl ?_
            refine V_imul 140 dX11_two_139 rfl ?_
            refine V_rw (show _ = (0 : Int32) from by decide) ?_
            refine V_iload 142 1 rfl dX11_two_140 rfl ?_
            refine V_iadd 143 dX11_two_142 rfl ?_
            refine V_rw (show _ = (0 : Int32) from by decide) ?_
            refine V_goto 148 rfl dX11_two_143 ?_
            refine V_istore 150 [(5, .int 0), (4, .int 1), (8, .int 0), (7, .int 0), (6, .int 0), (0, rf G 69), (1, .int (nI v)), (2, .int y), (3, .int 2)] (by decide) rfl dX11_two_148 rfl ?_
            refine V_iinc 153 4 rfl 1 [(6, .int 1), (5, .int 0), (4, .int 1), (8, .int 0), (7, .int 0), (0, rf G 69), (1, .int (nI v)), (2, .int y), (3, .int 2)] (by decide) (by decide) rfl dX11_two_150 rfl ?_
            refine V_goto 59 rfl dX11_two_153 ?_
            refine V_iload 61 0 rfl dX11_two_59 rfl ?_
            refine V_iconst 62 (4) rfl dX11_two_61 rfl ?_
            refine V_icmp_ge 156 65 rfl dX11_two_62 rfl (fun c62 => absurd c62 (by decide)) (fun c62 => ?_)
            refine V_iload 67 0 rfl dX11_two_65 rfl ?_
            refine V_iconst 68 (2) rfl dX11_two_67 rfl ?_
            refine V_idiv 69 (by decide) dX11_two_68 rfl ?_
            refine V_rw (show _ = (0 : Int32) from by decide) ?_
            refine V_istore 71 [(7, .int 0), (6, .int 1), (5, .int 0), (4, .int 1), (8, .int 0), (0, rf G 69), (1, .int (nI v)), (2, .int y), (3, .int 2)] (by decide) rfl dX11_two_69 rfl ?_
            refine V_iload 73 1 rfl dX11_two_71 rfl ?_
            refine V_iconst 74 (2) rfl dX11_two_73 rfl ?_
            refine V_irem 75 (by decide) dX11_two_74 rfl ?_
            refine V_rw (show _ = (1 : Int32) from by decide) ?_
            refine V_istore 77 [(8, .int 1), (7, .int 0), (6, .int 1), (5, .int 0), (4, .int 1), (0, rf G 69), (1, .int (nI v)), (2, .int y), (3, .int 2)] (by decide) rfl dX11_two_75 rfl ?_
            refine V_iconst 78 (1) rfl dX11_two_77 rfl ?_
            refine V_iload 80 1 rfl dX11_two_78 rfl ?_
            refine V_isub 81 dX11_two_80 rfl ?_
            refine V_rw (show _ = (1 : Int32) from by decide) ?_
            refine V_iload 83 0 rfl dX11_two_81 rfl ?_
            refine V_iload_n 84 6 rfl rfl dX11_two_83 rfl ?_
            refine V_iload_n 85 7 rfl rfl dX11_two_84 rfl ?_
            refine V_callS (K' := 0) (S' := 0) 88 4 [.int 1, .int 1, .int (nI v), .int y] mkX11_hasBy lkX11_436 rfl (Nat.le_of_ble_eq_true rfl) (Nat.le_of_ble_eq_true rfl) (Nat.le_of_ble_eq_true rfl) (Nat.le_of_ble_eq_true rfl) rfl rfl dX11_two_85 rfl (c_X11_hasBy_11 ?_)
            rw [show haF 1 1 (nI v) y = y from rfl]
            refine Kq_i (k' := 0) (sl' := 0) rfl rfl ?_
            refine V_iload 90 1 rfl dX11_two_88 rfl ?_
            refine V_iload 92 0 rfl dX11_two_90 rfl ?_
            refine V_iload_n 93 6 rfl rfl dX11_two_92 rfl ?_
            refine V_iload_n 94 7 rfl rfl dX11_two_93 rfl ?_
            refine V_callS (K' := 0) (S' := 0) 97 4 [.int 0, .int 1, .int (nI v), .int y] mkX11_hasBy lkX11_436 rfl (Nat.le_of_ble_eq_true rfl) (Nat.le_of_ble_eq_true rfl) (Nat.le_of_ble_eq_true rfl) (Nat.le_of_ble_eq_true rfl) rfl rfl dX11_two_94 rfl (c_X11_hasBy_01 ?_)
            rw [show haF 0 1 (nI v) y = y from rfl]
            refine Kq_i (k' := 0) (sl' := 0) rfl rfl ?_
            refine V_icmp_gt 150 100 rfl dX11_two_97 rfl (fun c97 => absurd c97 (Int32.lt_irrefl)) (fun c97 => ?_)
            refine V_iconst 101 (1) rfl dX11_two_100 rfl ?_
            refine V_iload 103 0 rfl dX11_two_101 rfl ?_
            refine V_isub 104 dX11_two_103 rfl ?_
            refine V_rw (show _ = (0 : Int32) from by decide) ?_
            refine V_iload 106 1 rfl dX11_two_104 rfl ?_
            refine V_iload_n 107 6 rfl rfl dX11_two_106 rfl ?_
            refine V_iload_n 108 7 rfl rfl dX11_two_107 rfl ?_
            refine V_callS (K' := 0) (S' := 0) 111 4 [.int 0, .int 0, .int (nI v), .int y] mkX11_hasBy lkX11_436 rfl (Nat.le_of_ble_eq_true rfl) (Nat.le_of_ble_eq_true rfl) (Nat.le_of_ble_eq_true rfl) (Nat.le_of_ble_eq_true rfl) rfl rfl dX11_two_108 rfl (c_X11_hasBy_00 ?_)
            rw [show haF 0 0 (nI v) y = nI v from rfl]
            refine Kq_i (k' := 0) (sl' := 0) rfl rfl ?_
            refine V_iload 113 0 rfl dX11_two_111 rfl ?_
            refine V_iload 115 1 rfl dX11_two_113 rfl ?_
            refine V_iload_n 116 6 rfl rfl dX11_two_115 rfl ?_
            refine V_iload_n 117 7 rfl rfl dX11_two_116 rfl ?_
            refine V_callS (K' := 0) (S' := 0) 120 4 [.int 1, .int 0, .int (nI v), .int y] mkX11_hasBy lkX11_436 rfl (Nat.le_of_ble_eq_true rfl) (Nat.le_of_ble_eq_true rfl) (Nat.le_of_ble_eq_true rfl) (Nat.le_of_ble_eq_true rfl) rfl rfl dX11_two_117 rfl (c_X11_hasBy_10 ?_)
            rw [show haF 1 0 (nI v) y = nI v / 2 from rfl]
            refine Kq_i (k' := 0) (sl' := 0) rfl rfl ?_
            refine V_icmp_le 126 123 rfl dX11_two_120 rfl (fun c120 => absurd (half_lt v hv v0) (Int32.not_lt.mpr c120)) (fun c120 => ?_)
            refine V_goto 150 rfl dX11_two_123 ?_
            refine V_iinc 153 2 rfl 2 [(6, .int 2), (8, .int 1), (7, .int 0), (5, .int 0), (4, .int 1), (0, rf G 69), (1, .int (nI v)), (2, .int y), (3, .int 2)] (by decide) (by decide) rfl dX11_two_150 rfl ?_
            refine V_goto 59 rfl dX11_two_153 ?_
            refine V_iload 61 0 rfl dX11_two_59 rfl ?_
            refine V_iconst 62 (4) rfl dX11_two_61 rfl ?_
            refine V_icmp_ge 156 65 rfl dX11_two_62 rfl (fun c62 => absurd c62 (by decide)) (fun c62 => ?_)
            refine V_iload 67 0 rfl dX11_two_65 rfl ?_
            refine V_iconst 68 (2) rfl dX11_two_67 rfl ?_
            refine V_idiv 69 (by decide) dX11_two_68 rfl ?_
            refine V_rw (show _ = (1 : Int32) from by decide) ?_
            refine V_istore 71 [(7, .int 1), (6, .int 2), (8, .int 1), (5, .int 0), (4, .int 1), (0, rf G 69), (1, .int (nI v)), (2, .int y), (3, .int 2)] (by decide) rfl dX11_two_69 rfl ?_
            refine V_iload 73 1 rfl dX11_two_71 rfl ?_
            refine V_iconst 74 (2) rfl dX11_two_73 rfl ?_
            refine V_irem 75 (by decide) dX11_two_74 rfl ?_
            refine V_rw (show _ = (0 : Int32) from by decide) ?_
            refine V_istore 77 [(8, .int 0), (7, .int 1), (6, .int 2), (5, .int 0), (4, .int 1), (0, rf G 69), (1, .int (nI v)), (2, .int y), (3, .int 2)] (by decide) rfl dX11_two_75 rfl ?_
            refine V_iconst 78 (1) rfl dX11_two_77 rfl ?_
            refine V_iload 80 1 rfl dX11_two_78 rfl ?_
            refine V_isub 81 dX11_two_80 rfl ?_
            refine V_rw (show _ = (0 : Int32) from by decide) ?_
            refine V_iload 83 0 rfl dX11_two_81 rfl ?_
            refine V_iload_n 84 6 rfl rfl dX11_two_83 rfl ?_
            refine V_iload_n 85 7 rfl rfl dX11_two_84 rfl ?_
            refine V_callS (K' := 0) (S' := 0) 88 4 [.int 0, .int 0, .int (nI v), .int y] mkX11_hasBy lkX11_436 rfl (Nat.le_of_ble_eq_true rfl) (Nat.le_of_ble_eq_true rfl) (Nat.le_of_ble_eq_true rfl) (Nat.le_of_ble_eq_true rfl) rfl rfl dX11_two_85 rfl (c_X11_hasBy_00 ?_)
            rw [show haF 0 0 (nI v) y = nI v from rfl]
            refine Kq_i (k' := 0) (sl' := 0) rfl rfl ?_
            refine V_iload 90 1 rfl dX11_two_88 rfl ?_
            refine V_iload 92 0 rfl dX11_two_90 rfl ?_
            refine V_iload_n 93 6 rfl rfl dX11_two_92 rfl ?_
            refine V_iload_n 94 7 rfl rfl dX11_two_93 rfl ?_
            refine V_callS (K' := 0) (S' := 0) 97 4 [.int 1, .int 0, .int (nI v), .int y] mkX11_hasBy lkX11_436 rfl (Nat.le_of_ble_eq_true rfl) (Nat.le_of_ble_eq_true rfl) (Nat.le_of_ble_eq_true rfl) (Nat.le_of_ble_eq_true rfl) rfl rfl dX11_two_94 rfl (c_X11_hasBy_10 ?_)
            rw [show haF 1 0 (nI v) y = nI v / 2 from rfl]
            refine Kq_i (k' := 0) (sl' := 0) rfl rfl ?_
            refine V_icmp_gt 150 100 rfl dX11_two_97 rfl (fun c97 => ?_) (fun c97 => absurd (half_lt v hv v0) c97)
            refine V_iinc 153 2 rfl 3 [(6, .int 3), (8, .int 0), (7, .int 1), (5, .int 0), (4, .int 1), (0, rf G 69), (1, .int (nI v)), (2, .int y), (3, .int 2)] (by decide) (by decide) rfl dX11_two_150 rfl ?_
            refine V_goto 59 rfl dX11_two_153 ?_
            refine V_iload 61 0 rfl dX11_two_59 rfl ?_
            refine V_iconst 62 (4) rfl dX11_two_61 rfl ?_
            refine V_icmp_ge 156 65 rfl dX11_two_62 rfl (fun c62 => absurd c62 (by decide)) (fun c62 => ?_)
            refine V_iload 67 0 rfl dX11_two_65 rfl ?_
            refine V_iconst 68 (2) rfl dX11_two_67 rfl ?_
            refine V_idiv 69 (by decide) dX11_two_68 rfl ?_
            refine V_rw (show _ = (1 : Int32) from by decide) ?_
            refine V_istore 71 [(7, .int 1), (6, .int 3), (8, .int 0), (5, .int 0), (4, .int 1), (0, rf G 69), (1, .int (nI v)), (2, .int y), (3, .int 2)] (by decide) rfl dX11_two_69 rfl ?_
            refine V_iload 73 1 rfl dX11_two_71 rfl ?_
            refine V_iconst 74 (2) rfl dX11_two_73 rfl ?_
            refine V_irem 75 (by decide) dX11_two_74 rfl ?_
            refine V_rw (show _ = (1 : Int32) from by decide) ?_
            refine V_istore 77 [(8, .int 1), (7, .int 1), (6, .int 3), (5, .int 0), (4, .int 1), (0, rf G 69), (1, .int (nI v)), (2, .int y), (3, .int 2)] (by decide) rfl dX11_two_75 rfl ?_
            refine V_iconst 78 (1) rfl dX11_two_77 rfl ?_
            refine V_iload 80 1 rfl dX11_two_78 rfl ?_
            refine V_isub 81 dX11_two_80 rfl ?_
            refine V_rw (show _ = (0 : Int32) from by decide) ?_
            refine V_iload 83 0 rfl dX11_two_81 rfl ?_
            refine V_iload_n 84 6 rfl rfl dX11_two_83 rfl ?_
            refine V_iload_n 85 7 rfl rfl dX11_two_84 rfl ?_
            refine V_callS (K' := 0) (S' := 0) 88 4 [.int 0, .int 1, .int (nI v), .int y] mkX11_hasBy lkX11_436 rfl (Nat.le_of_ble_eq_true rfl) (Nat.le_of_ble_eq_true rfl) (Nat.le_of_ble_eq_true rfl) (Nat.le_of_ble_eq_true rfl) rfl rfl dX11_two_85 rfl (c_X11_hasBy_01 ?_)
            rw [show haF 0 1 (nI v) y = y from rfl]
            refine Kq_i (k' := 0) (sl' := 0) rfl rfl ?_
            refine V_iload 90 1 rfl dX11_two_88 rfl ?_
            refine V_iload 92 0 rfl dX11_two_90 rfl ?_
            refine V_iload_n 93 6 rfl rfl dX11_two_92 rfl ?_
            refine V_iload_n 94 7 rfl rfl dX11_two_93 rfl ?_
            refine V_callS (K' := 0) (S' := 0) 97 4 [.int 1, .int 1, .int (nI v), .int y] mkX11_hasBy lkX11_436 rfl (Nat.le_of_ble_eq_true rfl) (Nat.le_of_ble_eq_true rfl) (Nat.le_of_ble_eq_true rfl) (Nat.le_of_ble_eq_true rfl) rfl rfl dX11_two_94 rfl (c_X11_hasBy_11 ?_)
            rw [show haF 1 1 (nI v) y = y from rfl]
            refine Kq_i (k' := 0) (sl' := 0) rfl rfl ?_
            refine V_icmp_gt 150 100 rfl dX11_two_97 rfl (fun c97 => absurd c97 (Int32.lt_irrefl)) (fun c97 => ?_)
            refine V_iconst 101 (1) rfl dX11_two_100 rfl ?_
            refine V_iload 103 0 rfl dX11_two_101 rfl ?_
            refine V_isub 104 dX11_two_103 rfl ?_
            refine V_rw (show _ = (0 : Int32) from by decide) ?_
            refine V_iload 106 1 rfl dX11_two_104 rfl ?_
            refine V_iload_n 107 6 rfl rfl dX11_two_106 rfl ?_
            refine V_iload_n 108 7 rfl rfl dX11_two_107 rfl ?_
            refine V_callS (K' := 0) (S' := 0) 111 4 [.int 0, .int 1, .int (nI v), .int y] mkX11_hasBy lkX11_436 rfl (Nat.le_of_ble_eq_true rfl) (Nat.le_of_ble_eq_true rfl) (Nat.le_of_ble_eq_true rfl) (Nat.le_of_ble_eq_true rfl) rfl rfl dX11_two_108 rfl (c_X11_hasBy_01 ?_)
            rw [show haF 0 1 (nI v) y = y from rfl]
            refine Kq_i (k' := 0) (sl' := 0) rfl rfl ?_
            refine V_iload 113 0 rfl dX11_two_111 rfl ?_
            refine V_iload 115 1 rfl dX11_two_113 rfl ?_
            refine V_iload_n 116 6 rfl rfl dX11_two_115 rfl ?_
            refine V_iload_n 117 7 rfl rfl dX11_two_116 rfl ?_
            refine V_callS (K' := 0) (S' := 0) 120 4 [.int 1, .int 1, .int (nI v), .int y] mkX11_hasBy lkX11_436 rfl (Nat.le_of_ble_eq_true rfl) (Nat.le_of_ble_eq_true rfl) (Nat.le_of_ble_eq_true rfl) (Nat.le_of_ble_eq_true rfl) rfl rfl dX11_two_117 rfl (c_X11_hasBy_11 ?_)
            rw [show haF 1 1 (nI v) y = y from rfl]
            refine Kq_i (k' := 0) (sl' := 0) rfl rfl ?_
            refine V_icmp_le 126 123 rfl dX11_two_120 rfl (fun c120 => ?_) (fun c120 => absurd (Int32.le_refl _) c120)
            refine V_iinc 129 4 rfl 2 [(4, .int 2), (8, .int 1), (7, .int 1), (6, .int 3), (5, .int 0), (0, rf G 69), (1, .int (nI v)), (2, .int y), (3, .int 2)] (by decide) (by decide) rfl dX11_two_126 rfl ?_
            refine V_iload 131 4 rfl dX11_two_129 rfl ?_
            refine V_iconst 132 (-1) rfl dX11_two_131 rfl ?_
            refine V_icmp_ne 146 135 rfl dX11_two_132 rfl (fun c132 => ?_) (fun c132 => absurd c132 (by decide))
            refine V_iload 148 4 rfl dX11_two_146 rfl ?_
            refine V_istore 150 [(5, .int 0), (4, .int 2), (8, .int 1), (7, .int 1), (6, .int 3), (0, rf G 69), (1, .int (nI v)), (2, .int y), (3, .int 2)] (by decide) rfl dX11_two_148 rfl ?_
            refine V_iinc 153 4 rfl 4 [(6, .int 4), (5, .int 0), (4, .int 2), (8, .int 1), (7, .int 1), (0, rf G 69), (1, .int (nI v)), (2, .int y), (3, .int 2)] (by decide) (by decide) rfl dX11_two_150 rfl ?_
            refine V_goto 59 rfl dX11_two_153 ?_
            refine V_iload 61 0 rfl dX11_two_59 rfl ?_
            refine V_iconst 62 (4) rfl dX11_two_61 rfl ?_
            refine V_icmp_ge 156 65 rfl dX11_two_62 rfl (fun c62 => ?_) (fun c62 => absurd c62 (by decide))
            refine V_iload_n 157 8 rfl rfl dX11_two_156 rfl ?_
            refine V_if_ne 165 160 rfl dX11_two_157 rfl (fun c157 => ?_) (fun c157 => absurd c157 (by decide))
            refine V_iload_n 166 8 rfl rfl dX11_two_165 rfl ?_
            refine V_iconst 167 (1) rfl dX11_two_166 rfl ?_
            refine V_icmp_ne 175 170 rfl dX11_two_167 rfl (fun c167 => ?_) (fun c167 => absurd c167 (by decide))
            refine V_iload 177 1 rfl dX11_two_175 rfl ?_
            refine V_iconst 178 (-1) rfl dX11_two_177 rfl ?_
            refine V_icmp_ne 185 181 rfl dX11_two_178 rfl (fun c178 => ?_) (fun c178 => absurd c178 (by decide))
            refine V_iload 187 1 rfl dX11_two_185 rfl ?_
            refine V_bipush 189 (10) rfl dX11_two_187 rfl ?_
            refine V_idiv 190 (by decide) dX11_two_189 rfl ?_
            refine V_rw (show _ = (0 : Int32) from by decide) ?_
            refine V_iload 192 1 rfl dX11_two_190 rfl ?_
            refine V_bipush 194 (10) rfl dX11_two_192 rfl ?_
            refine V_irem 195 (by decide) dX11_two_194 rfl ?_
            refine V_rw (show _ = (0 : Int32) from by decide) ?_
            refine V_iload_n 196 6 rfl rfl dX11_two_195 rfl ?_
            refine V_iload_n 197 7 rfl rfl dX11_two_196 rfl ?_
            refine V_callS (K' := 0) (S' := 0) 200 4 [.int 0, .int 0, .int (nI v), .int y] mkX11_hasBy lkX11_436 rfl (Nat.le_of_ble_eq_true rfl) (Nat.le_of_ble_eq_true rfl) (Nat.le_of_ble_eq_true rfl) (Nat.le_of_ble_eq_true rfl) rfl rfl dX11_two_197 rfl (c_X11_hasBy_00 ?_)
            rw [show haF 0 0 (nI v) y = nI v from rfl]
            refine Kq_i (k' := 0) (sl' := 0) rfl rfl ?_
            refine V_iload 202 1 rfl dX11_two_200 rfl ?_
            refine V_bipush 204 (10) rfl dX11_two_202 rfl ?_
            refine V_irem 205 (by decide) dX11_two_204 rfl ?_
            refine V_rw (show _ = (0 : Int32) from by decide) ?_
            refine V_iload 207 1 rfl dX11_two_205 rfl ?_
            refine V_bipush 209 (10) rfl dX11_two_207 rfl ?_
            refine V_idiv 210 (by decide) dX11_two_209 rfl ?_
            refine V_rw (show _ = (0 : Int32) from by decide) ?_
            refine V_iload_n 211 6 rfl rfl dX11_two_210 rfl ?_
            refine V_iload_n 212 7 rfl rfl dX11_two_211 rfl ?_
            refine V_callS (K' := 0) (S' := 0) 215 4 [.int 0, .int 0, .int (nI v), .int y] mkX11_hasBy lkX11_436 rfl (Nat.le_of_ble_eq_true rfl) (Nat.le_of_ble_eq_true rfl) (Nat.le_of_ble_eq_true rfl) (Nat.le_of_ble_eq_true rfl) rfl rfl dX11_two_212 rfl (c_X11_hasBy_00 ?_)
            rw [show haF 0 0 (nI v) y = nI v from rfl]
            refine Kq_i (k' := 0) (sl' := 0) rfl rfl ?_
            refine V_iadd 216 dX11_two_215 rfl ?_
            refine V_ret_i rfl rfl (Nat.le_of_ble_eq_true rfl) (fun h => absurd h (by decide)) (Nat.le_of_ble_eq_true rfl) (hq I0 hz) dX11_two_216
      · refine Kq_i (k' := 0) (sl' := 0) rfl rfl ?_
        rw [ckW_n a29] at hq
        refine V_if_eq 39 35 rfl dX11_two_32 rfl (fun c32 => ?_) (fun c32 => absurd c32 (by decide))
        refine V_iconst 40 (0) rfl dX11_two_39 rfl ?_
        refine V_iconst 41 (1) rfl dX11_two_40 rfl ?_
        refine V_iconst 42 (1) rfl dX11_two_41 rfl ?_
        refine V_callV (K' := 0) (S' := 0) 45 69 11 3 [.int 0, .int 1, .int 1] mkX11_may lkX11_216 (by decide) rfl rfl (by decide) rfl (Nat.le_of_ble_eq_true rfl) (Nat.le_of_ble_eq_true rfl) (Nat.le_of_ble_eq_true rfl) (Nat.le_of_ble_eq_true rfl) rfl rfl dX11_two_42 rfl (c_X11_may (cd := 1) (kd := 1) hRM (by decide) (by decide) (by decide) ht (fun e => absurd rfl e) (fun _ => ?_))
        refine Kq_i (k' := 0) (sl' := 0) rfl rfl ?_
        refine V_if_ne 50 48 rfl dX11_two_45 rfl (fun c45 => absurd c45 (by decide)) (fun c45 => ?_)
        refine V_iconst 49 (0) rfl dX11_two_48 rfl ?_
        refine V_ret_i rfl rfl (Nat.le_of_ble_eq_true rfl) (fun h => absurd h (by decide)) (Nat.le_of_ble_eq_true rfl) (hq.x hI0 rfl) dX11_two_49
    · refine Kq_i (k' := 0) (sl' := 0) rfl rfl ?_
      rw [ckW_n a20] at hq
      refine V_if_eq 39 26 rfl dX11_two_23 rfl (fun c23 => ?_) (fun c23 => absurd c23 (by decide))
      refine V_iconst 40 (0) rfl dX11_two_39 rfl ?_
      refine V_iconst 41 (1) rfl dX11_two_40 rfl ?_
      refine V_iconst 42 (1) rfl dX11_two_41 rfl ?_
      refine V_callV (K' := 0) (S' := 0) 45 69 11 3 [.int 0, .int 1, .int 1] mkX11_may lkX11_216 (by decide) rfl rfl (by decide) rfl (Nat.le_of_ble_eq_true rfl) (Nat.le_of_ble_eq_true rfl) (Nat.le_of_ble_eq_true rfl) (Nat.le_of_ble_eq_true rfl) rfl rfl dX11_two_42 rfl (c_X11_may (cd := 1) (kd := 1) hRM (by decide) (by decide) (by decide) ht (fun e => absurd rfl e) (fun _ => ?_))
      refine Kq_i (k' := 0) (sl' := 0) rfl rfl ?_
      refine V_if_ne 50 48 rfl dX11_two_45 rfl (fun c45 => absurd c45 (by decide)) (fun c45 => ?_)
      refine V_iconst 49 (0) rfl dX11_two_48 rfl ?_
      refine V_ret_i rfl rfl (Nat.le_of_ble_eq_true rfl) (fun h => absurd h (by decide)) (Nat.le_of_ble_eq_true rfl) (hq.x hI0 rfl) dX11_two_49
  · refine Kq_i (k' := 0) (sl' := 0) rfl rfl ?_
    rw [ckW_n a10] at hq
    refine V_if_eq 39 16 rfl dX11_two_13 rfl (fun c13 => ?_) (fun c13 => absurd c13 (by decide))
    refine V_iconst 40 (0) rfl dX11_two_39 rfl ?_
    refine V_iconst 41 (1) rfl dX11_two_40 rfl ?_
    refine V_iconst 42 (1) rfl dX11_two_41 rfl ?_
    refine V_callV (K' := 0) (S' := 0) 45 69 11 3 [.int 0, .int 1, .int 1] mkX11_may lkX11_216 (by decide) rfl rfl (by decide) rfl (Nat.le_of_ble_eq_true rfl) (Nat.le_of_ble_eq_true rfl) (Nat.le_of_ble_eq_true rfl) (Nat.le_of_ble_eq_true rfl) rfl rfl dX11_two_42 rfl (c_X11_may (cd := 1) (kd := 1) hRM (by decide) (by decide) (by decide) ht (fun e => absurd rfl e) (fun _ => ?_))
    refine Kq_i (k' := 0) (sl' := 0) rfl rfl ?_
    refine V_if_ne 50 48 rfl dX11_two_45 rfl (fun c45 => absurd c45 (by decide)) (fun c45 => ?_)
    refine V_iconst 49 (0) rfl dX11_two_48 rfl ?_
    refine V_ret_i rfl rfl (Nat.le_of_ble_eq_true rfl) (fun h => absurd h (by decide)) (Nat.le_of_ble_eq_true rfl) (hq.x hI0 rfl) dX11_two_49
