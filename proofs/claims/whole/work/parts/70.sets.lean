/-! ===== the reference: clears, sets ===== -/
theorem c_X11_copiesN_72_76 {G : Gx} {d n : Nat} {I : FI} {R : FR} {J : FJ} {Q : Po} (hn : 102 ≤ n) (hRM : ∀ k, R 69 k = refM k) {z : Nat} (hz : z ≤ 16) (hq : Q (.inl none) n (upA I 76 (cpF (I 72) (I 76) z)) R J) : Cc G mX11_copies d 0 0 [rf G 69, rf G 72, rf G 76, .int (nI z)] n I R J Q := by
  have L : ∀ i, i ≤ z → V G mX11_copies d 0 0 0 0 3 [(4, .int (nI i)), (1, rf G 72), (2, rf G 76), (3, .int (nI z))] [] n (upA I 76 (cpF (I 72) (I 76) i)) R J Q := by
    refine loopd z ?_ (fun i hi ih => ?_)
    · refine V_iload 5 0 rfl dX11_copies_3 rfl ?_
      refine V_iload_n 6 3 rfl rfl dX11_copies_5 rfl ?_
      refine V_icmp_ge 23 9 rfl dX11_copies_6 rfl (fun c6 => ?_) (fun c6 => absurd (Int32.le_refl _) c6)
      refine V_ret_v rfl (Nat.le_of_ble_eq_true rfl) (fun _ => Nat.le_refl _) (Nat.le_of_ble_eq_true rfl) (hq) dX11_copies_23
    · refine V_iload 5 0 rfl dX11_copies_3 rfl ?_
      refine V_iload_n 6 3 rfl rfl dX11_copies_5 rfl ?_
      refine V_icmp_ge 23 9 rfl dX11_copies_6 rfl (fun c6 => absurd c6 (nI_ge hi (by omega))) (fun c6 => ?_)
      refine V_aload_n 10 2 rfl _ rfl rfl dX11_copies_9 rfl ?_
      refine V_iload 12 0 rfl dX11_copies_10 rfl ?_
      refine V_aload_n 13 1 rfl _ rfl rfl dX11_copies_12 rfl ?_
      refine V_iload 15 0 rfl dX11_copies_13 rfl ?_
      refine V_ialdN 16 72 16 i (I 72 i) rfl (by omega) (by decide) rfl (by omega) dX11_copies_15 rfl ?_
      refine V_iastN 17 76 16 i (by omega) (by decide) rfl (by omega) dX11_copies_16 rfl ?_
      refine V_iinc 20 0 rfl (nI (i + 1)) [(4, .int (nI (i + 1))), (1, rf G 72), (2, rf G 76), (3, .int (nI z))] (nI_1 _) (by decide) rfl dX11_copies_17 rfl ?_
      refine V_goto 3 rfl dX11_copies_20 ?_
      rw [upA_u, cpF_s]
      exact V_lv [0, 1, 2, 3] rfl ih
  show V _ _ _ _ _ _ _ _ [(0, rf G 69), (1, rf G 72), (2, rf G 76), (3, .int (nI z))] [] _ _ _ _ _
  have e0 : I = upA I 76 (cpF (I 72) (I 76) 0) := upA_cp0
  refine V_iconst 1 (0) rfl dX11_copies_0 rfl ?_
  refine V_istore 3 [(4, .int 0), (0, rf G 69), (1, rf G 72), (2, rf G 76), (3, .int (nI z))] (by decide) rfl dX11_copies_1 rfl ?_
  refine V_rwI e0 ?_
  exact V_lv [0, 2, 3, 4] rfl (L 0 (Nat.zero_le _))
theorem c_X11_copiesN_73_77 {G : Gx} {d n : Nat} {I : FI} {R : FR} {J : FJ} {Q : Po} (hn : 102 ≤ n) (hRM : ∀ k, R 69 k = refM k) {z : Nat} (hz : z ≤ 12) (hq : Q (.inl none) n (upA I 77 (cpF (I 73) (I 77) z)) R J) : Cc G mX11_copies d 0 0 [rf G 69, rf G 73, rf G 77, .int (nI z)] n I R J Q := by
  have L : ∀ i, i ≤ z → V G mX11_copies d 0 0 0 0 3 [(4, .int (nI i)), (1, rf G 73), (2, rf G 77), (3, .int (nI z))] [] n (upA I 77 (cpF (I 73) (I 77) i)) R J Q := by
    refine loopd z ?_ (fun i hi ih => ?_)
    · refine V_iload 5 0 rfl dX11_copies_3 rfl ?_
      refine V_iload_n 6 3 rfl rfl dX11_copies_5 rfl ?_
      refine V_icmp_ge 23 9 rfl dX11_copies_6 rfl (fun c6 => ?_) (fun c6 => absurd (Int32.le_refl _) c6)
      refine V_ret_v rfl (Nat.le_of_ble_eq_true rfl) (fun _ => Nat.le_refl _) (Nat.le_of_ble_eq_true rfl) (hq) dX11_copies_23
    · refine V_iload 5 0 rfl dX11_copies_3 rfl ?_
      refine V_iload_n 6 3 rfl rfl dX11_copies_5 rfl ?_
      refine V_icmp_ge 23 9 rfl dX11_copies_6 rfl (fun c6 => absurd c6 (nI_ge hi (by omega))) (fun c6 => ?_)
      refine V_aload_n 10 2 rfl _ rfl rfl dX11_copies_9 rfl ?_
      refine V_iload 12 0 rfl dX11_copies_10 rfl ?_
      refine V_aload_n 13 1 rfl _ rfl rfl dX11_copies_12 rfl ?_
      refine V_iload 15 0 rfl dX11_copies_13 rfl ?_
      refine V_ialdN 16 73 12 i (I 73 i) rfl (by omega) (by decide) rfl (by omega) dX11_copies_15 rfl ?_
      refine V_iastN 17 77 12 i (by omega) (by decide) rfl (by omega) dX11_copies_16 rfl ?_
      refine V_iinc 20 0 rfl (nI (i + 1)) [(4, .int (nI (i + 1))), (1, rf G 73), (2, rf G 77), (3, .int (nI z))] (nI_1 _) (by decide) rfl dX11_copies_17 rfl ?_
      refine V_goto 3 rfl dX11_copies_20 ?_
      rw [upA_u, cpF_s]
      exact V_lv [0, 1, 2, 3] rfl ih
  show V _ _ _ _ _ _ _ _ [(0, rf G 69), (1, rf G 73), (2, rf G 77), (3, .int (nI z))] [] _ _ _ _ _
  have e0 : I = upA I 77 (cpF (I 73) (I 77) 0) := upA_cp0
  refine V_iconst 1 (0) rfl dX11_copies_0 rfl ?_
  refine V_istore 3 [(4, .int 0), (0, rf G 69), (1, rf G 73), (2, rf G 77), (3, .int (nI z))] (by decide) rfl dX11_copies_1 rfl ?_
  refine V_rwI e0 ?_
  exact V_lv [0, 2, 3, 4] rfl (L 0 (Nat.zero_le _))
theorem c_X11_copiesN_74_78 {G : Gx} {d n : Nat} {I : FI} {R : FR} {J : FJ} {Q : Po} (hn : 102 ≤ n) (hRM : ∀ k, R 69 k = refM k) {z : Nat} (hz : z ≤ 6) (hq : Q (.inl none) n (upA I 78 (cpF (I 74) (I 78) z)) R J) : Cc G mX11_copies d 0 0 [rf G 69, rf G 74, rf G 78, .int (nI z)] n I R J Q := by
  have L : ∀ i, i ≤ z → V G mX11_copies d 0 0 0 0 3 [(4, .int (nI i)), (1, rf G 74), (2, rf G 78), (3, .int (nI z))] [] n (upA I 78 (cpF (I 74) (I 78) i)) R J Q := by
    refine loopd z ?_ (fun i hi ih => ?_)
    · refine V_iload 5 0 rfl dX11_copies_3 rfl ?_
      refine V_iload_n 6 3 rfl rfl dX11_copies_5 rfl ?_
      refine V_icmp_ge 23 9 rfl dX11_copies_6 rfl (fun c6 => ?_) (fun c6 => absurd (Int32.le_refl _) c6)
      refine V_ret_v rfl (Nat.le_of_ble_eq_true rfl) (fun _ => Nat.le_refl _) (Nat.le_of_ble_eq_true rfl) (hq) dX11_copies_23
    · refine V_iload 5 0 rfl dX11_copies_3 rfl ?_
      refine V_iload_n 6 3 rfl rfl dX11_copies_5 rfl ?_
      refine V_icmp_ge 23 9 rfl dX11_copies_6 rfl (fun c6 => absurd c6 (nI_ge hi (by omega))) (fun c6 => ?_)
      refine V_aload_n 10 2 rfl _ rfl rfl dX11_copies_9 rfl ?_
      refine V_iload 12 0 rfl dX11_copies_10 rfl ?_
      refine V_aload_n 13 1 rfl _ rfl rfl dX11_copies_12 rfl ?_
      refine V_iload 15 0 rfl dX11_copies_13 rfl ?_
      refine V_ialdN 16 74 6 i (I 74 i) rfl (by omega) (by decide) rfl (by omega) dX11_copies_15 rfl ?_
      refine V_iastN 17 78 6 i (by omega) (by decide) rfl (by omega) dX11_copies_16 rfl ?_
      refine V_iinc 20 0 rfl (nI (i + 1)) [(4, .int (nI (i + 1))), (1, rf G 74), (2, rf G 78), (3, .int (nI z))] (nI_1 _) (by decide) rfl dX11_copies_17 rfl ?_
      refine V_goto 3 rfl dX11_copies_20 ?_
      rw [upA_u, cpF_s]
      exact V_lv [0, 1, 2, 3] rfl ih
  show V _ _ _ _ _ _ _ _ [(0, rf G 69), (1, rf G 74), (2, rf G 78), (3, .int (nI z))] [] _ _ _ _ _
  have e0 : I = upA I 78 (cpF (I 74) (I 78) 0) := upA_cp0
  refine V_iconst 1 (0) rfl dX11_copies_0 rfl ?_
  refine V_istore 3 [(4, .int 0), (0, rf G 69), (1, rf G 74), (2, rf G 78), (3, .int (nI z))] (by decide) rfl dX11_copies_1 rfl ?_
  refine V_rwI e0 ?_
  exact V_lv [0, 2, 3, 4] rfl (L 0 (Nat.zero_le _))
theorem c_X11_copiesN_75_79 {G : Gx} {d n : Nat} {I : FI} {R : FR} {J : FJ} {Q : Po} (hn : 102 ≤ n) (hRM : ∀ k, R 69 k = refM k) {z : Nat} (hz : z ≤ 6) (hq : Q (.inl none) n (upA I 79 (cpF (I 75) (I 79) z)) R J) : Cc G mX11_copies d 0 0 [rf G 69, rf G 75, rf G 79, .int (nI z)] n I R J Q := by
  have L : ∀ i, i ≤ z → V G mX11_copies d 0 0 0 0 3 [(4, .int (nI i)), (1, rf G 75), (2, rf G 79), (3, .int (nI z))] [] n (upA I 79 (cpF (I 75) (I 79) i)) R J Q := by
    refine loopd z ?_ (fun i hi ih => ?_)
    · refine V_iload 5 0 rfl dX11_copies_3 rfl ?_
      refine V_iload_n 6 3 rfl rfl dX11_copies_5 rfl ?_
      refine V_icmp_ge 23 9 rfl dX11_copies_6 rfl (fun c6 => ?_) (fun c6 => absurd (Int32.le_refl _) c6)
      refine V_ret_v rfl (Nat.le_of_ble_eq_true rfl) (fun _ => Nat.le_refl _) (Nat.le_of_ble_eq_true rfl) (hq) dX11_copies_23
    · refine V_iload 5 0 rfl dX11_copies_3 rfl ?_
      refine V_iload_n 6 3 rfl rfl dX11_copies_5 rfl ?_
      refine V_icmp_ge 23 9 rfl dX11_copies_6 rfl (fun c6 => absurd c6 (nI_ge hi (by omega))) (fun c6 => ?_)
      refine V_aload_n 10 2 rfl _ rfl rfl dX11_copies_9 rfl ?_
      refine V_iload 12 0 rfl dX11_copies_10 rfl ?_
      refine V_aload_n 13 1 rfl _ rfl rfl dX11_copies_12 rfl ?_
      refine V_iload 15 0 rfl dX11_copies_13 rfl ?_
      refine V_ialdN 16 75 6 i (I 75 i) rfl (by omega) (by decide) rfl (by omega) dX11_copies_15 rfl ?_
      refine V_iastN 17 79 6 i (by omega) (by decide) rfl (by omega) dX11_copies_16 rfl ?_
      refine V_iinc 20 0 rfl (nI (i + 1)) [(4, .int (nI (i + 1))), (1, rf G 75), (2, rf G 79), (3, .int (nI z))] (nI_1 _) (by decide) rfl dX11_copies_17 rfl ?_
      refine V_goto 3 rfl dX11_copies_20 ?_
      rw [upA_u, cpF_s]
      exact V_lv [0, 1, 2, 3] rfl ih
  show V _ _ _ _ _ _ _ _ [(0, rf G 69), (1, rf G 75), (2, rf G 79), (3, .int (nI z))] [] _ _ _ _ _
  have e0 : I = upA I 79 (cpF (I 75) (I 79) 0) := upA_cp0
  refine V_iconst 1 (0) rfl dX11_copies_0 rfl ?_
  refine V_istore 3 [(4, .int 0), (0, rf G 69), (1, rf G 75), (2, rf G 79), (3, .int (nI z))] (by decide) rfl dX11_copies_1 rfl ?_
  refine V_rwI e0 ?_
  exact V_lv [0, 2, 3, 4] rfl (L 0 (Nat.zero_le _))
theorem c_X11_clears {G : Gx} {d n : Nat} {I : FI} {R : FR} {J : FJ} {Q : Po} (hn : 102 ≤ n) (hRM : ∀ k, R 69 k = refM k) (hq : ∀ I', CoastN I' K0 → FrY I I' → Q (.inl none) n I' R J) : Cc G mX11_clears d 0 0 [rf G 69] n I R J Q := by
  obtain ⟨B, eB⟩ : ∃ B, B = up2 (up2 (up2 I 69 18 0) 69 19 0) 69 20 0 := ⟨_, rfl⟩
  have q1 : ∀ a, a ≠ 69 → B a = I a := fun a h => by rw [eB, up2_n _ _ _ h, up2_n _ _ _ h, up2_n _ _ _ h]
  have q2 : ∀ j, j ≠ 18 → j ≠ 19 → j ≠ 20 → B 69 j = I 69 j := fun j h1 h2 h3 => by rw [eB, up2_s, upd_n h3, up2_s, upd_n h2, up2_s, upd_n h1]
  have q18 : B 69 18 = 0 := by rw [eB, up2_s, upd_n (by decide), up2_s, upd_n (by decide), up2_s]; exact upd_s
  have q19 : B 69 19 = 0 := by rw [eB, up2_s, upd_n (by decide), up2_s]; exact upd_s
  have q20 : B 69 20 = 0 := by rw [eB, up2_s]; exact upd_s
  have hN : CoastN (upA B 75 (fiF (B 75) (-1) 6)) K0 := by
    refine ⟨?_, ?_, ?_, fun h hh => absurd hh (Nat.not_lt_zero _), fun h hh => absurd hh (Nat.not_lt_zero _), fun h hh => absurd hh (Nat.not_lt_zero _), fun m hm => ?_⟩
    · rw [upA_n (by decide)]; exact q18
    · rw [upA_n (by decide)]; exact q19
    · rw [upA_n (by decide)]; exact q20
    · rw [upA_s]; exact if_pos hm
  have hF : FrY I (upA B 75 (fiF (B 75) (-1) 6)) := ⟨fun a h1 h2 => by rw [upA_n (by omega)]; exact q1 a h1, fun j h1 h2 h3 => by rw [upA_n (by decide)]; exact q2 j h1 h2 h3⟩
  have L : ∀ i, i ≤ 6 → V G mX11_clears d 0 0 0 0 17 [(1, .int (nI i)), (0, rf G 69)] [] n (upA B 75 (fiF (B 75) (-1) i)) R J Q := by
    refine loopd 6 ?_ (fun i hi ih => ?_)
    · refine V_iload_n 18 0 rfl rfl dX11_clears_17 rfl ?_
      refine V_bipush 20 (6) rfl dX11_clears_18 rfl ?_
      refine V_icmp_ge 36 23 rfl dX11_clears_20 rfl (fun c20 => ?_) (fun c20 => absurd (Int32.le_refl _) c20)
      refine V_ret_v rfl (Nat.le_of_ble_eq_true rfl) (fun _ => Nat.le_refl _) (Nat.le_of_ble_eq_true rfl) (hq _ hN hF) dX11_clears_36
    · refine V_iload_n 18 0 rfl rfl dX11_clears_17 rfl ?_
      refine V_bipush 20 (6) rfl dX11_clears_18 rfl ?_
      refine V_icmp_ge 36 23 rfl dX11_clears_20 rfl (fun c20 => absurd c20 (nI_ge hi (by decide))) (fun c20 => ?_)
      refine V_aload_n 24 1 rfl _ rfl rfl dX11_clears_23 rfl ?_
      refine V_getR 27 69 11 13 75 (hRM 13) flX11_32 rfl rfl rfl (by omega) dX11_clears_24 rfl ?_
      refine V_iload_n 28 0 rfl rfl dX11_clears_27 rfl ?_
      refine V_iconst 29 (-1) rfl dX11_clears_28 rfl ?_
      refine V_iastN 30 75 6 i (by omega) (by decide) rfl (by omega) dX11_clears_29 rfl ?_
      refine V_iinc 33 0 rfl (nI (i + 1)) [(1, .int (nI (i + 1))), (0, rf G 69)] (nI_1 _) (by decide) rfl dX11_clears_30 rfl ?_
      refine V_goto 17 rfl dX11_clears_33 ?_
      rw [upA_u, fiF_s]
      exact V_lv [0, 1] rfl ih
  show V _ _ _ _ _ _ _ _ [(0, rf G 69)] [] _ _ _ _ _
  refine V_aload_n 1 0 rfl _ rfl rfl dX11_clears_0 rfl ?_
  refine V_iconst 2 (0) rfl dX11_clears_1 rfl ?_
  refine V_putI 5 69 11 18 flX11_166 rfl rfl rfl (by omega) rfl dX11_clears_2 rfl ?_
  refine V_aload_n 6 0 rfl _ rfl rfl dX11_clears_5 rfl ?_
  refine V_iconst 7 (0) rfl dX11_clears_6 rfl ?_
  refine V_putI 10 69 11 19 flX11_169 rfl rfl rfl (by omega) rfl dX11_clears_7 rfl ?_
  refine V_aload_n 11 0 rfl _ rfl rfl dX11_clears_10 rfl ?_
  refine V_iconst 12 (0) rfl dX11_clears_11 rfl ?_
  refine V_putI 15 69 11 20 flX11_172 rfl rfl rfl (by omega) rfl dX11_clears_12 rfl ?_
  rw [← eB]
  refine V_iconst 16 (0) rfl dX11_clears_15 rfl ?_
  refine V_istore_n 17 [(1, .int 0), (0, rf G 69)] (by decide) rfl rfl dX11_clears_16 rfl ?_
  refine V_rwI (upA_fi0 (a := 75) (v := -1)) ?_
  exact V_lv [0, 1] rfl (L 0 (Nat.zero_le _))
/-- what sets() leaves -/
def SetM (I I' : FI) (K : CO) : Prop := CoastM I' K ∧ I' 69 30 = 0 ∧ I' 69 46 = 0 ∧ I' 69 35 = 0 ∧ I' 69 56 = 0 ∧ I' 69 36 = 0 ∧ (∀ h, h < 24 → I' 93 h = -1) ∧ (∀ k, k < 51 → I' 88 k = day0 K k) ∧ (∀ a, a ≠ 69 → (a < 76 ∨ 79 < a) → a ≠ 88 → a ≠ 93 → I' a = I a) ∧ ∀ j, (j < 21 ∨ 23 < j) → j ≠ 30 → j ≠ 46 → j ≠ 35 → j ≠ 56 → j ≠ 36 → I' 69 j = I 69 j
theorem c_X11_sets {G : Gx} {d n : Nat} {I : FI} {R : FR} {J : FJ} {Q : Po} (hn : 102 ≤ n) (hRM : ∀ k, R 69 k = refM k) {K : CO} (hN : CoastN I K) (h8 : cH K ≤ 8) (h6 : cG K ≤ 6) (hm6 : cM K ≤ 6) (hq : ∀ I', SetM I I' K → Q (.inl none) n I' R J) : Cc G mX11_sets (d + 1) 0 0 [rf G 69] n I R J Q := by
  obtain ⟨n1, n2, n3, n4, n5, n6, n7⟩ := hN
  obtain ⟨A, eA⟩ : ∃ A, A = up2 (up2 (up2 I 69 21 (nI (cH K))) 69 22 (nI (cG K))) 69 23 (nI (cM K)) := ⟨_, rfl⟩
  have a1 : ∀ a, a ≠ 69 → A a = I a := fun a h => by rw [eA, up2_n _ _ _ h, up2_n _ _ _ h, up2_n _ _ _ h]
  have a2 : ∀ j, (j < 21 ∨ 23 < j) → A 69 j = I 69 j := fun j h => by rw [eA, up2_s, upd_n (by omega), up2_s, upd_n (by omega), up2_s, upd_n (by omega)]
  have a21 : A 69 21 = nI (cH K) := by rw [eA, up2_s, upd_n (by decide), up2_s, upd_n (by decide), up2_s]; exact upd_s
  have a22 : A 69 22 = nI (cG K) := by rw [eA, up2_s, upd_n (by decide), up2_s]; exact upd_s
  have a23 : A 69 23 = nI (cM K) := by rw [eA, up2_s]; exact upd_s
  obtain ⟨A1, e1⟩ : ∃ A1, A1 = upA A 76 (cpF (A 72) (A 76) 16) := ⟨_, rfl⟩
  obtain ⟨A2, e2⟩ : ∃ A2, A2 = upA A1 77 (cpF (A1 73) (A1 77) 12) := ⟨_, rfl⟩
  obtain ⟨A3, e3⟩ : ∃ A3, A3 = upA A2 78 (cpF (A2 74) (A2 78) 6) := ⟨_, rfl⟩
  obtain ⟨A4, e4⟩ : ∃ A4, A4 = upA A3 79 (cpF (A3 75) (A3 79) 6) := ⟨_, rfl⟩
  have b1 : ∀ a, (a < 76 ∨ 79 < a) → A4 a = A a := fun a h => by rw [e4, upA_n (by omega), e3, upA_n (by omega), e2, upA_n (by omega), e1, upA_n (by omega)]
  have b76 : ∀ j, j < 16 → A4 76 j = I 72 j := fun j h => by rw [e4, upA_n (by decide), e3, upA_n (by decide), e2, upA_n (by decide), e1, upA_s]; exact (if_pos h).trans (by rw [a1 72 (by decide)])
  have b77 : ∀ j, j < 12 → A4 77 j = I 73 j := fun j h => by rw [e4, upA_n (by decide), e3, upA_n (by decide), e2, upA_s]; exact (if_pos h).trans (by rw [e1, upA_n (by decide), a1 73 (by decide)])
  have b78 : ∀ j, j < 6 → A4 78 j = I 74 j := fun j h => by rw [e4, upA_n (by decide), e3, upA_s]; exact (if_pos h).trans (by rw [e2, upA_n (by decide), e1, upA_n (by decide), a1 74 (by decide)])
  have b79 : ∀ j, j < 6 → A4 79 j = I 75 j := fun j h => by rw [e4, upA_s]; exact (if_pos h).trans (by rw [e3, upA_n (by decide), e2, upA_n (by decide), e1, upA_n (by decide), a1 75 (by decide)])
  obtain ⟨C, eC⟩ : ∃ C, C = up2 (up2 (up2 (up2 (up2 A4 69 30 0) 69 46 0) 69 35 0) 69 56 0) 69 36 0 := ⟨_, rfl⟩
  have c1 : ∀ a, a ≠ 69 → C a = A4 a := fun a h => by rw [eC, up2_n _ _ _ h, up2_n _ _ _ h, up2_n _ _ _ h, up2_n _ _ _ h, up2_n _ _ _ h]
  have c2 : ∀ j, j ≠ 30 → j ≠ 46 → j ≠ 35 → j ≠ 56 → j ≠ 36 → C 69 j = A4 69 j := fun j h1 h2 h3 h4 h5 => by rw [eC, up2_s, upd_n h5, up2_s, upd_n h4, up2_s, upd_n h3, up2_s, upd_n h2, up2_s, upd_n h1]
  have c30 : C 69 30 = 0 := by rw [eC, up2_s, upd_n (by decide), up2_s, upd_n (by decide), up2_s, upd_n (by decide), up2_s, upd_n (by decide), up2_s]; exact upd_s
  have c46 : C 69 46 = 0 := by rw [eC, up2_s, upd_n (by decide), up2_s, upd_n (by decide), up2_s, upd_n (by decide), up2_s]; exact upd_s
  have c35 : C 69 35 = 0 := by rw [eC, up2_s, upd_n (by decide), up2_s, upd_n (by decide), up2_s]; exact upd_s
  have c56 : C 69 56 = 0 := by rw [eC, up2_s, upd_n (by decide), up2_s]; exact upd_s
  have c36 : C 69 36 = 0 := by rw [eC, up2_s]; exact upd_s
  have b69 : A4 69 = A 69 := b1 69 (by decide)
  have c21 : C 69 21 = nI (cH K) := by rw [c2 21 (by decide) (by decide) (by decide) (by decide) (by decide), b69]; exact a21
  have c22 : C 69 22 = nI (cG K) := by rw [c2 22 (by decide) (by decide) (by decide) (by decide) (by decide), b69]; exact a22
  have c23 : C 69 23 = nI (cM K) := by rw [c2 23 (by decide) (by decide) (by decide) (by decide) (by decide), b69]; exact a23
  obtain ⟨B, eB⟩ : ∃ B, B = upA C 93 (fiF (C 93) (-1) 24) := ⟨_, rfl⟩
  have d1 : ∀ a, a ≠ 93 → B a = C a := fun a h => by rw [eB]; exact upA_n h
  have d93 : ∀ h, h < 24 → B 93 h = -1 := fun h hh => by rw [eB, upA_s]; exact if_pos hh
  have d22 : B 69 22 = nI (cG K) := by rw [d1 69 (by decide)]; exact c22
  have d23 : B 69 23 = nI (cM K) := by rw [d1 69 (by decide)]; exact c23
  have d77 : ∀ g, g < cG K → B 77 (2 * g) = cGr K (2 * g) := fun g hg => by rw [d1 77 (by decide), c1 77 (by decide), b77 _ (by omega)]; exact (n5 g hg).1
  have fin : ∀ F : DV, (∀ k, k < 51 → F k = day0 K k) → Q (.inl none) n (upA B 88 F) R J := fun F hF => by
    have z : ∀ a, a ≠ 88 → upA B 88 F a = B a := fun a h => upA_n h
    refine hq _ ⟨⟨?_, ?_, ?_, fun h hh => ?_, fun g hg => ?_, fun m hm => ?_, fun m hm => ?_⟩, ?_, ?_, ?_, ?_, ?_, fun h hh => ?_, fun k hk => ?_, fun a h1 h2 h3 h4 => ?_, fun j h1 h2 h3 h4 h5 h6 => ?_⟩
    · rw [z 69 (by decide), d1 69 (by decide)]; exact c21
    · rw [z 69 (by decide), d1 69 (by decide)]; exact c22
    · rw [z 69 (by decide), d1 69 (by decide)]; exact c23
    · rw [z 76 (by decide), d1 76 (by decide), c1 76 (by decide), b76 _ (by omega), b76 _ (by omega)]; exact n4 h hh
    · rw [z 77 (by decide), d1 77 (by decide), c1 77 (by decide), b77 _ (by omega), b77 _ (by omega)]; exact n5 g hg
    · rw [z 78 (by decide), d1 78 (by decide), c1 78 (by decide), b78 _ (by omega)]; exact n6 m hm
    · rw [z 79 (by decide), d1 79 (by decide), c1 79 (by decide), b79 _ (by omega)]; exact n7 m (by omega)
    · rw [z 69 (by decide), d1 69 (by decide)]; exact c30
    · rw [z 69 (by decide), d1 69 (by decide)]; exact c46
    · rw [z 69 (by decide), d1 69 (by decide)]; exact c35
    · rw [z 69 (by decide), d1 69 (by decide)]; exact c56
    · rw [z 69 (by decide), d1 69 (by decide)]; exact c36
    · rw [z 93 (by decide)]; exact d93 h hh
    · rw [upA_s]; exact hF k hk
    · rw [z a h3, d1 a h4, c1 a h1, b1 a h2, a1 a h1]
    · rw [z 69 (by decide), d1 69 (by decide), c2 j h2 h3 h4 h5 h6, b69, a2 j h1]
  have L4 : ∀ i, i ≤ cG K → ∀ F : DV, (∀ k, k < 44 + i → F k = day0 K k) → (∀ k, 44 + i ≤ k → k < 51 → F k = 0) → V G mX11_sets (d + 1) 0 0 0 0 204 [(1, .int (nI i)), (0, rf G 69)] [] n (upA B 88 F) R J Q := by
    refine loopd (cG K) (fun F f1 f2 => ?_) (fun i hi ih F f1 f2 => ?_)
    · have f3 : ∀ k, k < 51 → F k = day0 K k := fun k hk => by
        by_cases q : k < 44 + cG K
        · exact f1 k q
        · rw [f2 k (by omega) hk]
          by_cases q2 : k = 50
          · subst q2; exact d0_h.symm
          · obtain ⟨g, rfl⟩ : ∃ g, k = 44 + g := ⟨k - 44, by omega⟩
            rw [d0_f (by omega), if_neg (by omega)]
      refine V_iload_n 205 0 rfl rfl dX11_sets_204 rfl ?_
      refine V_aload_n 206 1 rfl _ rfl rfl dX11_sets_205 rfl ?_
      refine V_getI 209 69 11 22 (nI (cG K)) (by rw [upA_n (by decide)]; exact d22) flX11_178 rfl rfl rfl (by omega) dX11_sets_206 rfl ?_
      refine V_icmp_ge 235 212 rfl dX11_sets_209 rfl (fun c209 => ?_) (fun c209 => absurd (Int32.le_refl _) c209)
      refine V_ret_v rfl (Nat.le_of_ble_eq_true rfl) (fun _ => Nat.le_refl _) (Nat.le_of_ble_eq_true rfl) (fin F f3) dX11_sets_235
    · have g1 : ∀ k, k < 44 + (i + 1) → upd F (44 + i) (cGr K (2 * i)) k = day0 K k := fun k hk => by
        by_cases q : k = 44 + i
        · subst q; rw [upd_s, d0_f (by omega), if_pos hi]
        · rw [upd_n q]; exact f1 k (by omega)
      have g2 : ∀ k, 44 + (i + 1) ≤ k → k < 51 → upd F (44 + i) (cGr K (2 * i)) k = 0 := fun k h1 h2 => by rw [upd_n (by omega)]; exact f2 k (by omega) h2
      refine V_iload_n 205 0 rfl rfl dX11_sets_204 rfl ?_
      refine V_aload_n 206 1 rfl _ rfl rfl dX11_sets_205 rfl ?_
      refine V_getI 209 69 11 22 (nI (cG K)) (by rw [upA_n (by decide)]; exact d22) flX11_178 rfl rfl rfl (by omega) dX11_sets_206 rfl ?_
      refine V_icmp_ge 235 212 rfl dX11_sets_209 rfl (fun c209 => absurd c209 (nI_ge hi (by omega))) (fun c209 => ?_)
      refine V_aload_n 213 1 rfl _ rfl rfl dX11_sets_212 rfl ?_
      refine V_getR 216 69 11 40 88 (hRM 40) flX11_71 rfl rfl rfl (by omega) dX11_sets_213 rfl ?_
      refine V_bipush 218 (44) rfl dX11_sets_216 rfl ?_
      refine V_iload_n 219 0 rfl rfl dX11_sets_218 rfl ?_
      refine V_iadd 220 dX11_sets_219 rfl ?_
      refine V_rw (nI_add 44 i) ?_
      refine V_aload_n 221 1 rfl _ rfl rfl dX11_sets_220 rfl ?_
      refine V_getR 224 69 11 15 77 (hRM 15) flX11_38 rfl rfl rfl (by omega) dX11_sets_221 rfl ?_
      refine V_iconst 225 (2) rfl dX11_sets_224 rfl ?_
      refine V_iload_n 226 0 rfl rfl dX11_sets_225 rfl ?_
      refine V_imul 227 dX11_sets_226 rfl ?_
      refine V_rw (pk_mul 2 i) ?_
      refine V_ialdN 228 77 12 (2 * i) (cGr K (2 * i)) (by rw [upA_n (by decide)]; exact d77 i hi) (by omega) (by decide) rfl (by omega) dX11_sets_227 rfl ?_
      refine V_iastN 229 88 51 (44 + i) (by omega) (by decide) rfl (by omega) dX11_sets_228 rfl ?_
      rw [upA_u]
      refine V_iinc 232 0 rfl (nI (i + 1)) [(1, .int (nI (i + 1))), (0, rf G 69)] (nI_1 _) (by decide) rfl dX11_sets_229 rfl ?_
      refine V_goto 204 rfl dX11_sets_232 ?_
      exact V_lv [0, 1] rfl (ih _ g1 g2)
  have L3 : ∀ i, i ≤ 6 → ∀ F : DV, (∀ k, k < 51 → F k = if (k < 6 ∧ k < i) ∨ (6 ≤ k ∧ k < 12 ∧ k - 6 < i) ∨ (30 ≤ k ∧ k < 36 ∧ k - 30 < i) then (if k < 12 then -1 else if k - 30 < cM K then 1 else 0) else 0) → V G mX11_sets (d + 1) 0 0 0 0 149 [(1, .int (nI i)), (0, rf G 69)] [] n (upA B 88 F) R J Q := by
    refine loopd 6 (fun F f1 => ?_) (fun i hi ih F f1 => ?_)
    · have f3 : ∀ k, k < 44 + 0 → F k = day0 K k := fun k hk => by
        rw [f1 k (by omega)]
        by_cases q : k < 12
        · rw [if_pos (by omega), if_pos q, d0_on q]
        · by_cases q2 : k < 30
          · rw [if_neg (by omega), d0_z (by omega) q2]
          · by_cases q3 : k < 36
            · obtain ⟨m, rfl⟩ : ∃ m, k = 30 + m := ⟨k - 30, by omega⟩
              rw [if_pos (by omega), if_neg q, d0_l (by omega), show 30 + m - 30 = m by omega]
            · obtain ⟨m, rfl⟩ : ∃ m, k = 36 + m := ⟨k - 36, by omega⟩
              rw [if_neg (by omega), d0_o (by omega)]
      have f4 : ∀ k, 44 + 0 ≤ k → k < 51 → F k = 0 := fun k h1 h2 => by rw [f1 k h2, if_neg (by omega)]
      refine V_iload_n 150 0 rfl rfl dX11_sets_149 rfl ?_
      refine V_bipush 152 (6) rfl dX11_sets_150 rfl ?_
      refine V_icmp_ge 202 155 rfl dX11_sets_152 rfl (fun c152 => ?_) (fun c152 => absurd (Int32.le_refl _) c152)
      refine V_iconst 203 (0) rfl dX11_sets_202 rfl ?_
      refine V_istore_n 204 [(1, .int 0), (0, rf G 69)] (by decide) rfl rfl dX11_sets_203 rfl ?_
      exact V_lv [0, 1] rfl (L4 0 (Nat.zero_le _) F f3 f4)
    · have g : ∀ v : Int32, v = (if i < cM K then 1 else 0) → ∀ k, k < 51 → upd (upd (upd F i (-1)) (6 + i) (-1)) (30 + i) v k = if (k < 6 ∧ k < i + 1) ∨ (6 ≤ k ∧ k < 12 ∧ k - 6 < i + 1) ∨ (30 ≤ k ∧ k < 36 ∧ k - 30 < i + 1) then (if k < 12 then -1 else if k - 30 < cM K then 1 else 0) else 0 := fun v hv k hk => by
        by_cases q3 : k = 30 + i
        · subst q3; rw [upd_s]; symm; rw [if_pos (by omega), if_neg (by omega), show 30 + i - 30 = i by omega]; exact hv.symm
        · rw [upd_n q3]
          by_cases q2 : k = 6 + i
          · subst q2; rw [upd_s, if_pos (by omega), if_pos (by omega)]
          · rw [upd_n q2]
            by_cases q1 : k = i
            · subst q1; rw [upd_s, if_pos (by omega), if_pos (by omega)]
            · rw [upd_n q1, f1 k hk]
              by_cases q : (k < 6 ∧ k < i) ∨ (6 ≤ k ∧ k < 12 ∧ k - 6 < i) ∨ (30 ≤ k ∧ k < 36 ∧ k - 30 < i)
              · rw [if_pos q, if_pos (show (k < 6 ∧ k < i + 1) ∨ (6 ≤ k ∧ k < 12 ∧ k - 6 < i + 1) ∨ (30 ≤ k ∧ k < 36 ∧ k - 30 < i + 1) by omega)]
              · rw [if_neg q, if_neg (by omega)]
      refine V_iload_n 150 0 rfl rfl dX11_sets_149 rfl ?_
      refine V_bipush 152 (6) rfl dX11_sets_150 rfl ?_
      refine V_icmp_ge 202 155 rfl dX11_sets_152 rfl (fun c152 => absurd c152 (nI_ge hi (by decide))) (fun c152 => ?_)
      refine V_aload_n 156 1 rfl _ rfl rfl dX11_sets_155 rfl ?_
      refine V_getR 159 69 11 40 88 (hRM 40) flX11_71 rfl rfl rfl (by omega) dX11_sets_156 rfl ?_
      refine V_iconst 160 (0) rfl dX11_sets_159 rfl ?_
      refine V_iload_n 161 0 rfl rfl dX11_sets_160 rfl ?_
      refine V_iadd 162 dX11_sets_161 rfl ?_
      refine V_rw (nI_z _) ?_
      refine V_iconst 163 (-1) rfl dX11_sets_162 rfl ?_
      refine V_iastN 164 88 51 i (by omega) (by decide) rfl (by omega) dX11_sets_163 rfl ?_
      rw [upA_u]
      refine V_aload_n 165 1 rfl _ rfl rfl dX11_sets_164 rfl ?_
      refine V_getR 168 69 11 40 88 (hRM 40) flX11_71 rfl rfl rfl (by omega) dX11_sets_165 rfl ?_
      refine V_bipush 170 (6) rfl dX11_sets_168 rfl ?_
      refine V_iload_n 171 0 rfl rfl dX11_sets_170 rfl ?_
      refine V_iadd 172 dX11_sets_171 rfl ?_
      refine V_rw (nI_add 6 i) ?_
      refine V_iconst 173 (-1) rfl dX11_sets_172 rfl ?_
      refine V_iastN 174 88 51 (6 + i) (by omega) (by decide) rfl (by omega) dX11_sets_173 rfl ?_
      rw [upA_u]
      refine V_aload_n 175 1 rfl _ rfl rfl dX11_sets_174 rfl ?_
      refine V_getR 178 69 11 40 88 (hRM 40) flX11_71 rfl rfl rfl (by omega) dX11_sets_175 rfl ?_
      refine V_bipush 180 (30) rfl dX11_sets_178 rfl ?_
      refine V_iload_n 181 0 rfl rfl dX11_sets_180 rfl ?_
      refine V_iadd 182 dX11_sets_181 rfl ?_
      refine V_rw (nI_add 30 i) ?_
      refine V_iload_n 183 0 rfl rfl dX11_sets_182 rfl ?_
      refine V_aload_n 184 1 rfl _ rfl rfl dX11_sets_183 rfl ?_
      refine V_getI 187 69 11 23 (nI (cM K)) (by rw [upA_n (by decide)]; exact d23) flX11_181 rfl rfl rfl (by omega) dX11_sets_184 rfl ?_
      refine V_icmp_ge 194 190 rfl dX11_sets_187 rfl (fun c187 => ?_) (fun c187 => ?_)
      · refine V_iconst 195 (0) rfl dX11_sets_194 rfl ?_
        refine V_iastN 196 88 51 (30 + i) (by omega) (by decide) rfl (by omega) dX11_sets_195 rfl ?_
        rw [upA_u]
        refine V_iinc 199 0 rfl (nI (i + 1)) [(1, .int (nI (i + 1))), (0, rf G 69)] (nI_1 _) (by decide) rfl dX11_sets_196 rfl ?_
        refine V_goto 149 rfl dX11_sets_199 ?_
        exact V_lv [0, 1] rfl (ih _ (g _ (if_neg (fun q => absurd c187 (nI_ge q (by omega)))).symm))
      · refine V_iconst 191 (1) rfl dX11_sets_190 rfl ?_
        refine V_goto 195 rfl dX11_sets_191 ?_
        refine V_iastN 196 88 51 (30 + i) (by omega) (by decide) rfl (by omega) dX11_sets_195 rfl ?_
        rw [upA_u]
        refine V_iinc 199 0 rfl (nI (i + 1)) [(1, .int (nI (i + 1))), (0, rf G 69)] (nI_1 _) (by decide) rfl dX11_sets_196 rfl ?_
        refine V_goto 149 rfl dX11_sets_199 ?_
        exact V_lv [0, 1] rfl (ih _ (g _ (if_pos ((nI_ltI (by omega) (by omega)).mp (Int32.not_le.mp c187))).symm))
  have L2 : ∀ i, i ≤ 51 → ∀ F : DV, (∀ k, k < i → F k = 0) → V G mX11_sets (d + 1) 0 0 0 0 128 [(1, .int (nI i)), (0, rf G 69)] [] n (upA B 88 F) R J Q := by
    refine loopd 51 (fun F f1 => ?_) (fun i hi ih F f1 => ?_)
    · have f3 : ∀ k, k < 51 → F k = if (k < 6 ∧ k < 0) ∨ (6 ≤ k ∧ k < 12 ∧ k - 6 < 0) ∨ (30 ≤ k ∧ k < 36 ∧ k - 30 < 0) then (if k < 12 then -1 else if k - 30 < cM K then 1 else 0) else 0 := fun k hk => by rw [f1 k hk, if_neg (by omega)]
      refine V_iload_n 129 0 rfl rfl dX11_sets_128 rfl ?_
      refine V_bipush 131 (51) rfl dX11_sets_129 rfl ?_
      refine V_icmp_ge 147 134 rfl dX11_sets_131 rfl (fun c131 => ?_) (fun c131 => absurd (Int32.le_refl _) c131)
      refine V_iconst 148 (0) rfl dX11_sets_147 rfl ?_
      refine V_istore_n 149 [(1, .int 0), (0, rf G 69)] (by decide) rfl rfl dX11_sets_148 rfl ?_
      exact V_lv [0, 1] rfl (L3 0 (Nat.zero_le _) F f3)
    · refine V_iload_n 129 0 rfl rfl dX11_sets_128 rfl ?_
      refine V_bipush 131 (51) rfl dX11_sets_129 rfl ?_
      refine V_icmp_ge 147 134 rfl dX11_sets_131 rfl (fun c131 => absurd c131 (nI_ge hi (by decide))) (fun c131 => ?_)
      refine V_aload_n 135 1 rfl _ rfl rfl dX11_sets_134 rfl ?_
      refine V_getR 138 69 11 40 88 (hRM 40) flX11_71 rfl rfl rfl (by omega) dX11_sets_135 rfl ?_
      refine V_iload_n 139 0 rfl rfl dX11_sets_138 rfl ?_
      refine V_iconst 140 (0) rfl dX11_sets_139 rfl ?_
      refine V_iastN 141 88 51 i (by omega) (by decide) rfl (by omega) dX11_sets_140 rfl ?_
      rw [upA_u]
      refine V_iinc 144 0 rfl (nI (i + 1)) [(1, .int (nI (i + 1))), (0, rf G 69)] (nI_1 _) (by decide) rfl dX11_sets_141 rfl ?_
      refine V_goto 128 rfl dX11_sets_144 ?_
      exact V_lv [0, 1] rfl (ih _ (fun k hk => by
        by_cases q : k = i
        · subst q; exact upd_s
        · rw [upd_n q]; exact f1 k (by omega)))
  have L1 : ∀ i, i ≤ 24 → V G mX11_sets (d + 1) 0 0 0 0 107 [(1, .int (nI i)), (0, rf G 69)] [] n (upA C 93 (fiF (C 93) (-1) i)) R J Q := by
    refine loopd 24 ?_ (fun i hi ih => ?_)
    · refine V_iload_n 108 0 rfl rfl dX11_sets_107 rfl ?_
      refine V_bipush 110 (24) rfl dX11_sets_108 rfl ?_
      refine V_icmp_ge 126 113 rfl dX11_sets_110 rfl (fun c110 => ?_) (fun c110 => absurd (Int32.le_refl _) c110)
      rw [← eB]
      refine V_iconst 127 (0) rfl dX11_sets_126 rfl ?_
      refine V_istore_n 128 [(1, .int 0), (0, rf G 69)] (by decide) rfl rfl dX11_sets_127 rfl ?_
      refine V_rwI (show B = upA B 88 (B 88) from by funext a; by_cases q : a = 88 <;> simp [upA, q]) ?_
      exact V_lv [0, 1] rfl (L2 0 (Nat.zero_le _) _ (fun k hk => absurd hk (Nat.not_lt_zero _)))
    · refine V_iload_n 108 0 rfl rfl dX11_sets_107 rfl ?_
      refine V_bipush 110 (24) rfl dX11_sets_108 rfl ?_
      refine V_icmp_ge 126 113 rfl dX11_sets_110 rfl (fun c110 => absurd c110 (nI_ge hi (by decide))) (fun c110 => ?_)
      refine V_aload_n 114 1 rfl _ rfl rfl dX11_sets_113 rfl ?_
      refine V_getR 117 69 11 45 93 (hRM 45) flX11_86 rfl rfl rfl (by omega) dX11_sets_114 rfl ?_
      refine V_iload_n 118 0 rfl rfl dX11_sets_117 rfl ?_
      refine V_iconst 119 (-1) rfl dX11_sets_118 rfl ?_
      refine V_iastN 120 93 24 i (by omega) (by decide) rfl (by omega) dX11_sets_119 rfl ?_
      refine V_iinc 123 0 rfl (nI (i + 1)) [(1, .int (nI (i + 1))), (0, rf G 69)] (nI_1 _) (by decide) rfl dX11_sets_120 rfl ?_
      refine V_goto 107 rfl dX11_sets_123 ?_
      rw [upA_u, fiF_s]
      exact V_lv [0, 1] rfl ih
  show V _ _ _ _ _ _ _ _ [(0, rf G 69)] [] _ _ _ _ _
  refine V_aload_n 1 0 rfl _ rfl rfl dX11_sets_0 rfl ?_
  refine V_aload_n 2 0 rfl _ rfl rfl dX11_sets_1 rfl ?_
  refine V_getI 5 69 11 18 (nI (cH K)) n1 flX11_166 rfl rfl rfl (by omega) dX11_sets_2 rfl ?_
  refine V_putI 8 69 11 21 flX11_175 rfl rfl rfl (by omega) rfl dX11_sets_5 rfl ?_
  refine V_aload_n 9 0 rfl _ rfl rfl dX11_sets_8 rfl ?_
  refine V_aload_n 10 0 rfl _ rfl rfl dX11_sets_9 rfl ?_
  refine V_getI 13 69 11 19 (nI (cG K)) (by rw [up2_s, upd_n (by decide)]; exact n2) flX11_169 rfl rfl rfl (by omega) dX11_sets_10 rfl ?_
  refine V_putI 16 69 11 22 flX11_178 rfl rfl rfl (by omega) rfl dX11_sets_13 rfl ?_
  refine V_aload_n 17 0 rfl _ rfl rfl dX11_sets_16 rfl ?_
  refine V_aload_n 18 0 rfl _ rfl rfl dX11_sets_17 rfl ?_
  refine V_getI 21 69 11 20 (nI (cM K)) (by rw [up2_s, upd_n (by decide), up2_s, upd_n (by decide)]; exact n3) flX11_172 rfl rfl rfl (by omega) dX11_sets_18 rfl ?_
  refine V_putI 24 69 11 23 flX11_181 rfl rfl rfl (by omega) rfl dX11_sets_21 rfl ?_
  rw [← eA]
  refine V_aload_n 25 0 rfl _ rfl rfl dX11_sets_24 rfl ?_
  refine V_aload_n 26 0 rfl _ rfl rfl dX11_sets_25 rfl ?_
  refine V_getR 29 69 11 10 72 (hRM 10) flX11_23 rfl rfl rfl (by omega) dX11_sets_26 rfl ?_
  refine V_aload_n 30 0 rfl _ rfl rfl dX11_sets_29 rfl ?_
  refine V_getR 33 69 11 14 76 (hRM 14) flX11_35 rfl rfl rfl (by omega) dX11_sets_30 rfl ?_
  refine V_bipush 35 (16) rfl dX11_sets_33 rfl ?_
  refine V_callV (K' := 0) (S' := 0) 38 69 11 3 [rf G 72, rf G 76, .int 16] mkX11_copies lkX11_184 (by decide) rfl rfl (by omega) rfl (Nat.le_of_ble_eq_true rfl) (Nat.le_of_ble_eq_true rfl) (Nat.le_of_ble_eq_true rfl) (Nat.le_of_ble_eq_true rfl) rfl rfl dX11_sets_35 rfl (c_X11_copiesN_72_76 (z := 16) hn hRM (by decide) ?_)
  refine Kq_v (k' := 0) (sl' := 0) rfl rfl ?_
  rw [← e1]
  refine V_aload_n 39 0 rfl _ rfl rfl dX11_sets_38 rfl ?_
  refine V_aload_n 40 0 rfl _ rfl rfl dX11_sets_39 rfl ?_
  refine V_getR 43 69 11 11 73 (hRM 11) flX11_26 rfl rfl rfl (by omega) dX11_sets_40 rfl ?_
  refine V_aload_n 44 0 rfl _ rfl rfl dX11_sets_43 rfl ?_
  refine V_getR 47 69 11 15 77 (hRM 15) flX11_38 rfl rfl rfl (by omega) dX11_sets_44 rfl ?_
  refine V_bipush 49 (12) rfl dX11_sets_47 rfl ?_
  refine V_callV (K' := 0) (S' := 0) 52 69 11 3 [rf G 73, rf G 77, .int 12] mkX11_copies lkX11_184 (by decide) rfl rfl (by omega) rfl (Nat.le_of_ble_eq_true rfl) (Nat.le_of_ble_eq_true rfl) (Nat.le_of_ble_eq_true rfl) (Nat.le_of_ble_eq_true rfl) rfl rfl dX11_sets_49 rfl (c_X11_copiesN_73_77 (z := 12) hn hRM (by decide) ?_)
  refine Kq_v (k' := 0) (sl' := 0) rfl rfl ?_
  rw [← e2]
  refine V_aload_n 53 0 rfl _ rfl rfl dX11_sets_52 rfl ?_
  refine V_aload_n 54 0 rfl _ rfl rfl dX11_sets_53 rfl ?_
  refine V_getR 57 69 11 12 74 (hRM 12) flX11_29 rfl rfl rfl (by omega) dX11_sets_54 rfl ?_
  refine V_aload_n 58 0 rfl _ rfl rfl dX11_sets_57 rfl ?_
  refine V_getR 61 69 11 16 78 (hRM 16) flX11_41 rfl rfl rfl (by omega) dX11_sets_58 rfl ?_
  refine V_bipush 63 (6) rfl dX11_sets_61 rfl ?_
  refine V_callV (K' := 0) (S' := 0) 66 69 11 3 [rf G 74, rf G 78, .int 6] mkX11_copies lkX11_184 (by decide) rfl rfl (by omega) rfl (Nat.le_of_ble_eq_true rfl) (Nat.le_of_ble_eq_true rfl) (Nat.le_of_ble_eq_true rfl) (Nat.le_of_ble_eq_true rfl) rfl rfl dX11_sets_63 rfl (c_X11_copiesN_74_78 (z := 6) hn hRM (by decide) ?_)
  refine Kq_v (k' := 0) (sl' := 0) rfl rfl ?_
  rw [← e3]
  refine V_aload_n 67 0 rfl _ rfl rfl dX11_sets_66 rfl ?_
  refine V_aload_n 68 0 rfl _ rfl rfl dX11_sets_67 rfl ?_
  refine V_getR 71 69 11 13 75 (hRM 13) flX11_32 rfl rfl rfl (by omega) dX11_sets_68 rfl ?_
  refine V_aload_n 72 0 rfl _ rfl rfl dX11_sets_71 rfl ?_
  refine V_getR 75 69 11 17 79 (hRM 17) flX11_44 rfl rfl rfl (by omega) dX11_sets_72 rfl ?_
  refine V_bipush 77 (6) rfl dX11_sets_75 rfl ?_
  refine V_callV (K' := 0) (S' := 0) 80 69 11 3 [rf G 75, rf G 79, .int 6] mkX11_copies lkX11_184 (by decide) rfl rfl (by omega) rfl (Nat.le_of_ble_eq_true rfl) (Nat.le_of_ble_eq_true rfl) (Nat.le_of_ble_eq_true rfl) (Nat.le_of_ble_eq_true rfl) rfl rfl dX11_sets_77 rfl (c_X11_copiesN_75_79 (z := 6) hn hRM (by decide) ?_)
  refine Kq_v (k' := 0) (sl' := 0) rfl rfl ?_
  rw [← e4]
  refine V_aload_n 81 0 rfl _ rfl rfl dX11_sets_80 rfl ?_
  refine V_iconst 82 (0) rfl dX11_sets_81 rfl ?_
  refine V_putI 85 69 11 30 flX11_188 rfl rfl rfl (by omega) rfl dX11_sets_82 rfl ?_
  refine V_aload_n 86 0 rfl _ rfl rfl dX11_sets_85 rfl ?_
  refine V_iconst 87 (0) rfl dX11_sets_86 rfl ?_
  refine V_putI 90 69 11 46 flX11_191 rfl rfl rfl (by omega) rfl dX11_sets_87 rfl ?_
  refine V_aload_n 91 0 rfl _ rfl rfl dX11_sets_90 rfl ?_
  refine V_iconst 92 (0) rfl dX11_sets_91 rfl ?_
  refine V_putI 95 69 11 35 flX11_194 rfl rfl rfl (by omega) rfl dX11_sets_92 rfl ?_
  refine V_aload_n 96 0 rfl _ rfl rfl dX11_sets_95 rfl ?_
  refine V_iconst 97 (0) rfl dX11_sets_96 rfl ?_
  refine V_putI 100 69 11 56 flX11_197 rfl rfl rfl (by omega) rfl dX11_sets_97 rfl ?_
  refine V_aload_n 101 0 rfl _ rfl rfl dX11_sets_100 rfl ?_
  refine V_iconst 102 (0) rfl dX11_sets_101 rfl ?_
  refine V_putI 105 69 11 36 flX11_200 rfl rfl rfl (by omega) rfl dX11_sets_102 rfl ?_
  rw [← eC]
  refine V_iconst 106 (0) rfl dX11_sets_105 rfl ?_
  refine V_istore_n 107 [(1, .int 0), (0, rf G 69)] (by decide) rfl rfl dX11_sets_106 rfl ?_
  refine V_rwI (upA_fi0 (a := 93) (v := -1)) ?_
  exact V_lv [0, 1] rfl (L1 0 (Nat.zero_le _))
