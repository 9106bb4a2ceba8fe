/-! ===== the reference: a sea, deaths, an hour ===== -/
set_option maxHeartbeats 4000000 in
theorem c_X11_seaBy {G : Gx} {d : Nat} {I : FI} {R : FR} {J : FJ} {Q : Po} (hRM : ∀ k, R 69 k = refM k) {K : CO} {D : DV} {f : DV → Int32} {m : Nat} (hK : CoastM I K) (hW : WK K) (hM : DayM I D) (hWD : WD K D) (hB : Bey K D) (hL : LawM I f) (hm : m < cM K) (hq : ∀ I', (∀ a, a ≠ 84 → a ≠ 85 → I' a = I a) → Q (.inl (some (.int (seaD K f D m)))) 103 I' R J) : Cc G mX11_seaBy (d + 1 + 1 + 1 + 1) 0 0 [rf G 69, .int (nI m)] 103 I R J Q := by
  have h6 := hW.2.2.1
  have hm6 : m < 6 := by omega
  have h8 := hW.1
  have hg66 := hW.2.1
  rcases hWD.2.2 m hm6 with e1 | ⟨g, hg, e1⟩
  · have e3 : seaD K f D m = 0 := by unfold seaD; rw [e1]; rfl
    rw [e3] at hq
    show V _ _ _ _ _ _ _ _ [(0, rf G 69), (1, .int (nI m))] [] _ _ _ _ _
    refine V_aload_n 1 0 rfl _ rfl rfl dX11_seaBy_0 rfl ?_
    refine V_getR 4 69 11 41 89 (hRM 41) flX11_74 rfl rfl rfl (by decide) dX11_seaBy_1 rfl ?_
    refine V_bipush 6 (6) rfl dX11_seaBy_4 rfl ?_
    refine V_iload_n 7 1 rfl rfl dX11_seaBy_6 rfl ?_
    refine V_iadd 8 dX11_seaBy_7 rfl ?_
    refine V_rw (nI_add 6 m) ?_
    refine V_ialdN 9 89 51 (6 + m) (-1) ((hM (6 + m) (by omega)).trans e1) (by omega) (by decide) rfl (by decide) dX11_seaBy_8 rfl ?_
    refine V_istore_n 10 [(2, .int (-1)), (0, rf G 69), (1, .int (nI m))] (by decide) rfl rfl dX11_seaBy_9 rfl ?_
    refine V_aload_n 11 1 rfl _ rfl rfl dX11_seaBy_10 rfl ?_
    refine V_getR 14 69 11 41 89 (hRM 41) flX11_74 rfl rfl rfl (by decide) dX11_seaBy_11 rfl ?_
    refine V_iconst 15 (0) rfl dX11_seaBy_14 rfl ?_
    refine V_iload_n 16 2 rfl rfl dX11_seaBy_15 rfl ?_
    refine V_iadd 17 dX11_seaBy_16 rfl ?_
    refine V_rw (nI_z _) ?_
    refine V_ialdN 18 89 51 m (D m) (hM (m) (by omega)) (by omega) (by decide) rfl (by decide) dX11_seaBy_17 rfl ?_
    refine V_istore_n 19 [(3, .int (D m)), (2, .int (-1)), (0, rf G 69), (1, .int (nI m))] (by decide) rfl rfl dX11_seaBy_18 rfl ?_
    refine V_iload_n 20 1 rfl rfl dX11_seaBy_19 rfl ?_
    refine V_iconst 21 (-1) rfl dX11_seaBy_20 rfl ?_
    refine V_icmp_eq 29 24 rfl dX11_seaBy_21 rfl (fun c21 => ?_) (fun c21 => absurd c21 (by decide))
    refine V_iconst 30 (0) rfl dX11_seaBy_29 rfl ?_
    refine V_goto 98 rfl dX11_seaBy_30 ?_
    refine V_ret_i rfl rfl (Nat.le_refl _) (fun h => absurd h (by decide)) (Nat.le_refl _) (hq I (fun _ _ _ => rfl)) dX11_seaBy_98
  · rcases hWD.2.1 m hm6 with e2 | ⟨h, hh, e2⟩
    · have e3 : seaD K f D m = 0 := by unfold seaD; rw [e2]; cases nOf (D (6 + m)) <;> rfl
      rw [e3] at hq
      show V _ _ _ _ _ _ _ _ [(0, rf G 69), (1, .int (nI m))] [] _ _ _ _ _
      refine V_aload_n 1 0 rfl _ rfl rfl dX11_seaBy_0 rfl ?_
      refine V_getR 4 69 11 41 89 (hRM 41) flX11_74 rfl rfl rfl (by decide) dX11_seaBy_1 rfl ?_
      refine V_bipush 6 (6) rfl dX11_seaBy_4 rfl ?_
      refine V_iload_n 7 1 rfl rfl dX11_seaBy_6 rfl ?_
      refine V_iadd 8 dX11_seaBy_7 rfl ?_
      refine V_rw (nI_add 6 m) ?_
      refine V_ialdN 9 89 51 (6 + m) (nI g) ((hM (6 + m) (by omega)).trans e1) (by omega) (by decide) rfl (by decide) dX11_seaBy_8 rfl ?_
      refine V_istore_n 10 [(2, .int (nI g)), (0, rf G 69), (1, .int (nI m))] (by decide) rfl rfl dX11_seaBy_9 rfl ?_
      refine V_aload_n 11 1 rfl _ rfl rfl dX11_seaBy_10 rfl ?_
      refine V_getR 14 69 11 41 89 (hRM 41) flX11_74 rfl rfl rfl (by decide) dX11_seaBy_11 rfl ?_
      refine V_iconst 15 (0) rfl dX11_seaBy_14 rfl ?_
      refine V_iload_n 16 2 rfl rfl dX11_seaBy_15 rfl ?_
      refine V_iadd 17 dX11_seaBy_16 rfl ?_
      refine V_rw (nI_z _) ?_
      refine V_ialdN 18 89 51 m (-1) ((hM m (by omega)).trans e2) (by omega) (by decide) rfl (by decide) dX11_seaBy_17 rfl ?_
      refine V_istore_n 19 [(3, .int (-1)), (2, .int (nI g)), (0, rf G 69), (1, .int (nI m))] (by decide) rfl rfl dX11_seaBy_18 rfl ?_
      refine V_iload_n 20 1 rfl rfl dX11_seaBy_19 rfl ?_
      refine V_iconst 21 (-1) rfl dX11_seaBy_20 rfl ?_
      refine V_icmp_eq 29 24 rfl dX11_seaBy_21 rfl (fun c21 => absurd c21 (nI_ne (by omega))) (fun c21 => ?_)
      refine V_iload_n 25 0 rfl rfl dX11_seaBy_24 rfl ?_
      refine V_iconst 26 (-1) rfl dX11_seaBy_25 rfl ?_
      refine V_icmp_ne 33 29 rfl dX11_seaBy_26 rfl (fun c26 => absurd c26 (by decide)) (fun c26 => ?_)
      refine V_iconst 30 (0) rfl dX11_seaBy_29 rfl ?_
      refine V_goto 98 rfl dX11_seaBy_30 ?_
      refine V_ret_i rfl rfl (Nat.le_refl _) (fun h => absurd h (by decide)) (Nat.le_refl _) (hq I (fun _ _ _ => rfl)) dX11_seaBy_98
    · have e3 : seaD K f D m = f (seaV K D m h g) := by unfold seaD; rw [e1, e2, nOf_n (by omega), nOf_n (by omega)]
      rw [e3] at hq
      have eo : onF (mAtF D (nI g) (cM K)) 8 = bcI (mAtF D (nI g) 6) := by rw [← mAtF_to (show g < 2 ^ 31 by omega) (fun j h1 h2 => (hB j h1 h2).2.1) 6 h6 (Nat.le_refl _)]; exact on_bc
      show V _ _ _ _ _ _ _ _ [(0, rf G 69), (1, .int (nI m))] [] _ _ _ _ _
      refine V_aload_n 1 0 rfl _ rfl rfl dX11_seaBy_0 rfl ?_
      refine V_getR 4 69 11 41 89 (hRM 41) flX11_74 rfl rfl rfl (by decide) dX11_seaBy_1 rfl ?_
      refine V_bipush 6 (6) rfl dX11_seaBy_4 rfl ?_
      refine V_iload_n 7 1 rfl rfl dX11_seaBy_6 rfl ?_
      refine V_iadd 8 dX11_seaBy_7 rfl ?_
      refine V_rw (nI_add 6 m) ?_
      refine V_ialdN 9 89 51 (6 + m) (nI g) ((hM (6 + m) (by omega)).trans e1) (by omega) (by decide) rfl (by decide) dX11_seaBy_8 rfl ?_
      refine V_istore_n 10 [(2, .int (nI g)), (0, rf G 69), (1, .int (nI m))] (by decide) rfl rfl dX11_seaBy_9 rfl ?_
      refine V_aload_n 11 1 rfl _ rfl rfl dX11_seaBy_10 rfl ?_
      refine V_getR 14 69 11 41 89 (hRM 41) flX11_74 rfl rfl rfl (by decide) dX11_seaBy_11 rfl ?_
      refine V_iconst 15 (0) rfl dX11_seaBy_14 rfl ?_
      refine V_iload_n 16 2 rfl rfl dX11_seaBy_15 rfl ?_
      refine V_iadd 17 dX11_seaBy_16 rfl ?_
      refine V_rw (nI_z _) ?_
      refine V_ialdN 18 89 51 m (nI h) ((hM m (by omega)).trans e2) (by omega) (by decide) rfl (by decide) dX11_seaBy_17 rfl ?_
      refine V_istore_n 19 [(3, .int (nI h)), (2, .int (nI g)), (0, rf G 69), (1, .int (nI m))] (by decide) rfl rfl dX11_seaBy_18 rfl ?_
      refine V_iload_n 20 1 rfl rfl dX11_seaBy_19 rfl ?_
      refine V_iconst 21 (-1) rfl dX11_seaBy_20 rfl ?_
      refine V_icmp_eq 29 24 rfl dX11_seaBy_21 rfl (fun c21 => absurd c21 (nI_ne (by omega))) (fun c21 => ?_)
      refine V_iload_n 25 0 rfl rfl dX11_seaBy_24 rfl ?_
      refine V_iconst 26 (-1) rfl dX11_seaBy_25 rfl ?_
      refine V_icmp_ne 33 29 rfl dX11_seaBy_26 rfl (fun c26 => ?_) (fun c26 => absurd c26 (nI_ne (by omega)))
      refine V_aload_n 34 2 rfl _ rfl rfl dX11_seaBy_33 rfl ?_
      refine V_aload_n 35 2 rfl _ rfl rfl dX11_seaBy_34 rfl ?_
      refine V_iload_n 36 0 rfl rfl dX11_seaBy_35 rfl ?_
      refine V_callV (K' := 0) (S' := 0) 39 69 11 1 [.int (nI h)] mkX11_forceOf lkX11_345 (by decide) rfl rfl (by decide) rfl (Nat.le_of_ble_eq_true rfl) (Nat.le_of_ble_eq_true rfl) (Nat.le_of_ble_eq_true rfl) (Nat.le_of_ble_eq_true rfl) rfl rfl dX11_seaBy_36 rfl (c_X11_forceOf hRM hK hW hM hh ?_)
      refine Kq_i (k' := 0) (sl' := 0) rfl rfl ?_
      refine V_aload_n 40 2 rfl _ rfl rfl dX11_seaBy_39 rfl ?_
      refine V_iload_n 41 0 rfl rfl dX11_seaBy_40 rfl ?_
      refine V_iload_n 42 1 rfl rfl dX11_seaBy_41 rfl ?_
      refine V_callV (K' := 0) (S' := 0) 45 69 11 2 [.int (nI h), .int (nI g)] mkX11_angleOf lkX11_348 (by decide) rfl rfl (by decide) rfl (Nat.le_of_ble_eq_true rfl) (Nat.le_of_ble_eq_true rfl) (Nat.le_of_ble_eq_true rfl) (Nat.le_of_ble_eq_true rfl) rfl rfl dX11_seaBy_42 rfl (c_X11_angleOf hRM hK hW hh hg ?_)
      refine Kq_i (k' := 0) (sl' := 0) rfl rfl ?_
      refine V_aload_n 46 2 rfl _ rfl rfl dX11_seaBy_45 rfl ?_
      refine V_getR 49 69 11 41 89 (hRM 41) flX11_74 rfl rfl rfl (by decide) dX11_seaBy_46 rfl ?_
      refine V_bipush 51 (12) rfl dX11_seaBy_49 rfl ?_
      refine V_iload_n 52 3 rfl rfl dX11_seaBy_51 rfl ?_
      refine V_iadd 53 dX11_seaBy_52 rfl ?_
      refine V_rw (nI_add 12 m) ?_
      refine V_ialdN 54 89 51 (12 + m) (D ((12 + m))) (hM ((12 + m)) (by omega)) (by omega) (by decide) rfl (by decide) dX11_seaBy_53 rfl ?_
      refine V_aload_n 55 2 rfl _ rfl rfl dX11_seaBy_54 rfl ?_
      refine V_getR 58 69 11 16 78 (hRM 16) flX11_41 rfl rfl rfl (by decide) dX11_seaBy_55 rfl ?_
      refine V_iload_n 59 3 rfl rfl dX11_seaBy_58 rfl ?_
      refine V_ialdN 60 78 6 m (cBt K m) (hK.2.2.2.2.2.1 m hm) (by omega) (by decide) rfl (by decide) dX11_seaBy_59 rfl ?_
      refine V_aload_n 61 2 rfl _ rfl rfl dX11_seaBy_60 rfl ?_
      refine V_getR 64 69 11 41 89 (hRM 41) flX11_74 rfl rfl rfl (by decide) dX11_seaBy_61 rfl ?_
      refine V_bipush 66 (18) rfl dX11_seaBy_64 rfl ?_
      refine V_iload_n 67 3 rfl rfl dX11_seaBy_66 rfl ?_
      refine V_iadd 68 dX11_seaBy_67 rfl ?_
      refine V_rw (nI_add 18 m) ?_
      refine V_ialdN 69 89 51 (18 + m) (D ((18 + m))) (hM ((18 + m)) (by omega)) (by omega) (by decide) rfl (by decide) dX11_seaBy_68 rfl ?_
      refine V_aload_n 70 2 rfl _ rfl rfl dX11_seaBy_69 rfl ?_
      refine V_getR 73 69 11 41 89 (hRM 41) flX11_74 rfl rfl rfl (by decide) dX11_seaBy_70 rfl ?_
      refine V_bipush 75 (44) rfl dX11_seaBy_73 rfl ?_
      refine V_iload_n 76 1 rfl rfl dX11_seaBy_75 rfl ?_
      refine V_iadd 77 dX11_seaBy_76 rfl ?_
      refine V_rw (nI_add 44 g) ?_
      refine V_ialdN 78 89 51 (44 + g) (D ((44 + g))) (hM ((44 + g)) (by omega)) (by omega) (by decide) rfl (by decide) dX11_seaBy_77 rfl ?_
      refine V_aload_n 79 2 rfl _ rfl rfl dX11_seaBy_78 rfl ?_
      refine V_iload_n 80 1 rfl rfl dX11_seaBy_79 rfl ?_
      refine V_callV (K' := 0) (S' := 0) 83 69 11 1 [.int (nI g)] mkX11_menAt lkX11_351 (by decide) rfl rfl (by decide) rfl (Nat.le_of_ble_eq_true rfl) (Nat.le_of_ble_eq_true rfl) (Nat.le_of_ble_eq_true rfl) (Nat.le_of_ble_eq_true rfl) rfl rfl dX11_seaBy_80 rfl (c_X11_menAt hRM hK h6 hM ?_)
      refine Kq_i (k' := 0) (sl' := 0) rfl rfl ?_
      refine V_callS (K' := 0) (S' := 0) 86 1 [.int (mAtF D (nI g) (cM K))] mkX11_ones lkX11_354 rfl (Nat.le_of_ble_eq_true rfl) (Nat.le_of_ble_eq_true rfl) (Nat.le_of_ble_eq_true rfl) (Nat.le_of_ble_eq_true rfl) rfl rfl dX11_seaBy_83 rfl (c_X11_ones ?_)
      rw [eo]
      refine Kq_i (k' := 0) (sl' := 0) rfl rfl ?_
      refine V_iconst 87 (1) rfl dX11_seaBy_86 rfl ?_
      refine V_isub 88 dX11_seaBy_87 rfl ?_
      refine V_aload_n 89 2 rfl _ rfl rfl dX11_seaBy_88 rfl ?_
      refine V_getR 92 69 11 41 89 (hRM 41) flX11_74 rfl rfl rfl (by decide) dX11_seaBy_89 rfl ?_
      refine V_bipush 94 (50) rfl dX11_seaBy_92 rfl ?_
      refine V_ialdN 95 89 51 50 (D 50) (hM (50) (by omega)) (by omega) (by decide) rfl (by decide) dX11_seaBy_94 rfl ?_
      refine V_callV (K' := 0) (S' := 0) 98 69 11 8 [.int (cHat K (2 * h) + D (36 + h)), .int (angF (cHat K (2 * h + 1)) (cGr K (2 * g + 1))), .int (D ((12 + m))), .int (cBt K m), .int (D ((18 + m))), .int (D ((44 + g))), .int ((bcI (mAtF D (nI g) 6)) - 1), .int (D 50)] mkX11_seaOf lkX11_357 (by decide) rfl rfl (by decide) rfl (Nat.le_of_ble_eq_true rfl) (Nat.le_of_ble_eq_true rfl) (Nat.le_of_ble_eq_true rfl) (Nat.le_of_ble_eq_true rfl) rfl rfl dX11_seaBy_95 rfl (c_X11_seaOf hRM hL (fun I1 hI1 => ?_))
      refine Kq_i (k' := 0) (sl' := 0) rfl rfl ?_
      refine V_ret_i rfl rfl (Nat.le_refl _) (fun h => absurd h (by decide)) (Nat.le_refl _) (hq I1 hI1) dX11_seaBy_98
/-- nothing but s differs -/
def FrD (I I' : FI) : Prop := ∀ a, a ≠ 89 → I' a = I a
theorem FrD.rf {I : FI} : FrD I I := fun _ _ => rfl
theorem FrD.tr {I I1 I2 : FI} (h : FrD I I1) (h2 : FrD I1 I2) : FrD I I2 := fun a b => (h2 a b).trans (h a b)
theorem FrD.up {I I' : FI} {k : Nat} {v : Int32} (h : FrD I I') : FrD I (up2 I' 89 k v) := fun b h1 => by rw [up2_n _ _ _ h1]; exact h b h1
theorem FrD.S {I I' : FI} (h : FrD I I') : FrS I I' := fun a _ _ h3 _ => h a h3
/-- a day in which one at home has no hours there -/
def StO (D : DV) : Prop := ∀ m, m < 6 → D (6 + m) = -1 → D (12 + m) = 0
theorem dHome_eq {D : DV} {m : Nat} (h : D (6 + m) = -1 → D (12 + m) = 0) : dHome D m = upd (upd D (6 + m) (-1)) (12 + m) 0 := by
  unfold dHome
  split
  · rename_i e
    funext k
    by_cases c : k = 12 + m
    · subst c; rw [upd_s]; exact h e
    · rw [upd_n c]
      by_cases c2 : k = 6 + m
      · subst c2; rw [upd_s]; exact e
      · rw [upd_n c2]
  · rfl
theorem upd_id {f : DV} {k : Nat} {v : Int32} (h : f k = v) : upd f k v = f := by
  funext j
  by_cases e : j = k
  · subst e; rw [upd_s, h]
  · rw [upd_n e]
theorem upd_if {E : DV} {P : Prop} [Decidable P] {j : Nat} {v : Int32} (h : P → E j = v) : (if P then upd E j v else E) = E := by
  by_cases c : P
  · rw [if_pos c, upd_id (h c)]
  · rw [if_neg c]
def dE (D : DV) (m : Nat) : DV := upd (upd (upd (upd D (30 + m) 0) m (-1)) (6 + m) (-1)) (12 + m) 0
theorem dDie0_eq {D : DV} {m : Nat} (hm : m < 6) (h : D (6 + m) = -1 → D (12 + m) = 0) : dDie0 D m = dE D m := by
  unfold dDie0 dE
  have e1 : upd (upd D (30 + m) 0) m (-1) (6 + m) = D (6 + m) := by rw [upd_n (by omega), upd_n (by omega)]
  have e2 : upd (upd D (30 + m) 0) m (-1) (12 + m) = D (12 + m) := by rw [upd_n (by omega), upd_n (by omega)]
  exact dHome_eq (fun e => by rw [e2]; exact h (e1.symm.trans e))
set_option maxHeartbeats 4000000 in
theorem c_X11_dies {G : Gx} {d : Nat} {I : FI} {R : FR} {J : FJ} {Q : Po} (hRM : ∀ k, R 69 k = refM k) {K : CO} {D : DV} {m : Nat} (hK : CoastM I K) (hW : WK K) (hM : DayM I D) (hSt : StO D) (hm : m < cM K) (hq : ∀ I', DayM I' (dDie D m (cHr K m)) → FrD I I' → Q (.inl none) 103 I' R J) : Cc G mX11_dies d 0 0 [rf G 69, .int (nI m)] 103 I R J Q := by
  have h6 := hW.2.2.1
  have h0 := dDie0_eq (D := D) (m := m) (by omega) (hSt m (by omega))
  have hE : DayM (up2 (up2 (up2 (up2 I 89 (30 + m) 0) 89 m (-1)) 89 (6 + m) (-1)) 89 (12 + m) 0) (dE D m) := DayM_u (DayM_u (DayM_u (DayM_u hM (by omega)) (by omega)) (by omega)) (by omega)
  have hF : FrD I (up2 (up2 (up2 (up2 I 89 (30 + m) 0) 89 m (-1)) 89 (6 + m) (-1)) 89 (12 + m) 0) := FrD.rf.up.up.up.up
  have hh := hK.2.2.2.2.2.2 m hm
  cases e : cHr K m with
  | none =>
    rw [e] at hq hh
    rw [dDie, h0] at hq
    show V _ _ _ _ _ _ _ _ [(0, rf G 69), (1, .int (nI m))] [] _ _ _ _ _
    refine V_aload_n 1 0 rfl _ rfl rfl dX11_dies_0 rfl ?_
    refine V_getR 4 69 11 41 89 (hRM 41) flX11_74 rfl rfl rfl (by decide) dX11_dies_1 rfl ?_
    refine V_iconst 5 (0) rfl dX11_dies_4 rfl ?_
    refine V_iload_n 6 1 rfl rfl dX11_dies_5 rfl ?_
    refine V_iadd 7 dX11_dies_6 rfl ?_
    refine V_rw (nI_z _) ?_
    refine V_ialdN 8 89 51 m (D m) (hM (m) (by omega)) (by omega) (by decide) rfl (by decide) dX11_dies_7 rfl ?_
    refine V_istore_n 9 [(2, .int (D m)), (0, rf G 69), (1, .int (nI m))] (by decide) rfl rfl dX11_dies_8 rfl ?_
    refine V_aload_n 10 1 rfl _ rfl rfl dX11_dies_9 rfl ?_
    refine V_getR 13 69 11 41 89 (hRM 41) flX11_74 rfl rfl rfl (by decide) dX11_dies_10 rfl ?_
    refine V_bipush 15 (30) rfl dX11_dies_13 rfl ?_
    refine V_iload_n 16 2 rfl rfl dX11_dies_15 rfl ?_
    refine V_iadd 17 dX11_dies_16 rfl ?_
    refine V_rw (nI_add 30 m) ?_
    refine V_iconst 18 (0) rfl dX11_dies_17 rfl ?_
    refine V_iastN 19 89 51 (30 + m) (by omega) (by decide) rfl (by decide) dX11_dies_18 rfl ?_
    refine V_aload_n 20 1 rfl _ rfl rfl dX11_dies_19 rfl ?_
    refine V_getR 23 69 11 41 89 (hRM 41) flX11_74 rfl rfl rfl (by decide) dX11_dies_20 rfl ?_
    refine V_iconst 24 (0) rfl dX11_dies_23 rfl ?_
    refine V_iload_n 25 2 rfl rfl dX11_dies_24 rfl ?_
    refine V_iadd 26 dX11_dies_25 rfl ?_
    refine V_rw (nI_z _) ?_
    refine V_iconst 27 (-1) rfl dX11_dies_26 rfl ?_
    refine V_iastN 28 89 51 m (by omega) (by decide) rfl (by decide) dX11_dies_27 rfl ?_
    refine V_aload_n 29 1 rfl _ rfl rfl dX11_dies_28 rfl ?_
    refine V_getR 32 69 11 41 89 (hRM 41) flX11_74 rfl rfl rfl (by decide) dX11_dies_29 rfl ?_
    refine V_bipush 34 (6) rfl dX11_dies_32 rfl ?_
    refine V_iload_n 35 2 rfl rfl dX11_dies_34 rfl ?_
    refine V_iadd 36 dX11_dies_35 rfl ?_
    refine V_rw (nI_add 6 m) ?_
    refine V_iconst 37 (-1) rfl dX11_dies_36 rfl ?_
    refine V_iastN 38 89 51 (6 + m) (by omega) (by decide) rfl (by decide) dX11_dies_37 rfl ?_
    refine V_aload_n 39 1 rfl _ rfl rfl dX11_dies_38 rfl ?_
    refine V_getR 42 69 11 41 89 (hRM 41) flX11_74 rfl rfl rfl (by decide) dX11_dies_39 rfl ?_
    refine V_bipush 44 (12) rfl dX11_dies_42 rfl ?_
    refine V_iload_n 45 2 rfl rfl dX11_dies_44 rfl ?_
    refine V_iadd 46 dX11_dies_45 rfl ?_
    refine V_rw (nI_add 12 m) ?_
    refine V_iconst 47 (0) rfl dX11_dies_46 rfl ?_
    refine V_iastN 48 89 51 (12 + m) (by omega) (by decide) rfl (by decide) dX11_dies_47 rfl ?_
    refine V_aload_n 49 1 rfl _ rfl rfl dX11_dies_48 rfl ?_
    refine V_getR 52 69 11 17 79 (hRM 17) flX11_44 rfl rfl rfl (by decide) dX11_dies_49 rfl ?_
    refine V_iload_n 53 2 rfl rfl dX11_dies_52 rfl ?_
    refine V_ialdN 54 79 6 m (-1) hh (by omega) (by decide) rfl (by decide) dX11_dies_53 rfl ?_
    refine V_istore_n 55 [(3, .int (-1)), (2, .int (D m)), (0, rf G 69), (1, .int (nI m))] (by decide) rfl rfl dX11_dies_54 rfl ?_
    refine V_iload_n 56 1 rfl rfl dX11_dies_55 rfl ?_
    refine V_iconst 57 (-1) rfl dX11_dies_56 rfl ?_
    refine V_icmp_eq 99 60 rfl dX11_dies_57 rfl (fun c57 => ?_) (fun c57 => ?_)
    · refine V_ret_v rfl (Nat.le_refl _) (fun h => absurd h (by decide)) (Nat.le_refl _) (hq _ hE hF) dX11_dies_99
    · refine V_iload_n 61 0 rfl rfl dX11_dies_60 rfl ?_
      refine V_iconst 62 (-1) rfl dX11_dies_61 rfl ?_
      refine V_icmp_eq 99 65 rfl dX11_dies_62 rfl (fun c62 => ?_) (fun c62 => absurd c62 (by decide))
      refine V_ret_v rfl (Nat.le_refl _) (fun h => absurd h (by decide)) (Nat.le_refl _) (hq _ hE hF) dX11_dies_99
  | some j =>
    have hj := hW.2.2.2.1 m j e
    rw [e] at hq hh
    rw [dDie, h0] at hq
    show V _ _ _ _ _ _ _ _ [(0, rf G 69), (1, .int (nI m))] [] _ _ _ _ _
    refine V_aload_n 1 0 rfl _ rfl rfl dX11_dies_0 rfl ?_
    refine V_getR 4 69 11 41 89 (hRM 41) flX11_74 rfl rfl rfl (by decide) dX11_dies_1 rfl ?_
    refine V_iconst 5 (0) rfl dX11_dies_4 rfl ?_
    refine V_iload_n 6 1 rfl rfl dX11_dies_5 rfl ?_
    refine V_iadd 7 dX11_dies_6 rfl ?_
    refine V_rw (nI_z _) ?_
    refine V_ialdN 8 89 51 m (D m) (hM (m) (by omega)) (by omega) (by decide) rfl (by decide) dX11_dies_7 rfl ?_
    refine V_istore_n 9 [(2, .int (D m)), (0, rf G 69), (1, .int (nI m))] (by decide) rfl rfl dX11_dies_8 rfl ?_
    refine V_aload_n 10 1 rfl _ rfl rfl dX11_dies_9 rfl ?_
    refine V_getR 13 69 11 41 89 (hRM 41) flX11_74 rfl rfl rfl (by decide) dX11_dies_10 rfl ?_
    refine V_bipush 15 (30) rfl dX11_dies_13 rfl ?_
    refine V_iload_n 16 2 rfl rfl dX11_dies_15 rfl ?_
    refine V_iadd 17 dX11_dies_16 rfl ?_
    refine V_rw (nI_add 30 m) ?_
    refine V_iconst 18 (0) rfl dX11_dies_17 rfl ?_
    refine V_iastN 19 89 51 (30 + m) (by omega) (by decide) rfl (by decide) dX11_dies_18 rfl ?_
    refine V_aload_n 20 1 rfl _ rfl rfl dX11_dies_19 rfl ?_
    refine V_getR 23 69 11 41 89 (hRM 41) flX11_74 rfl rfl rfl (by decide) dX11_dies_20 rfl ?_
    refine V_iconst 24 (0) rfl dX11_dies_23 rfl ?_
    refine V_iload_n 25 2 rfl rfl dX11_dies_24 rfl ?_
    refine V_iadd 26 dX11_dies_25 rfl ?_
    refine V_rw (nI_z _) ?_
    refine V_iconst 27 (-1) rfl dX11_dies_26 rfl ?_
    refine V_iastN 28 89 51 m (by omega) (by decide) rfl (by decide) dX11_dies_27 rfl ?_
    refine V_aload_n 29 1 rfl _ rfl rfl dX11_dies_28 rfl ?_
    refine V_getR 32 69 11 41 89 (hRM 41) flX11_74 rfl rfl rfl (by decide) dX11_dies_29 rfl ?_
    refine V_bipush 34 (6) rfl dX11_dies_32 rfl ?_
    refine V_iload_n 35 2 rfl rfl dX11_dies_34 rfl ?_
    refine V_iadd 36 dX11_dies_35 rfl ?_
    refine V_rw (nI_add 6 m) ?_
    refine V_iconst 37 (-1) rfl dX11_dies_36 rfl ?_
    refine V_iastN 38 89 51 (6 + m) (by omega) (by decide) rfl (by decide) dX11_dies_37 rfl ?_
    refine V_aload_n 39 1 rfl _ rfl rfl dX11_dies_38 rfl ?_
    refine V_getR 42 69 11 41 89 (hRM 41) flX11_74 rfl rfl rfl (by decide) dX11_dies_39 rfl ?_
    refine V_bipush 44 (12) rfl dX11_dies_42 rfl ?_
    refine V_iload_n 45 2 rfl rfl dX11_dies_44 rfl ?_
    refine V_iadd 46 dX11_dies_45 rfl ?_
    refine V_rw (nI_add 12 m) ?_
    refine V_iconst 47 (0) rfl dX11_dies_46 rfl ?_
    refine V_iastN 48 89 51 (12 + m) (by omega) (by decide) rfl (by decide) dX11_dies_47 rfl ?_
    refine V_aload_n 49 1 rfl _ rfl rfl dX11_dies_48 rfl ?_
    refine V_getR 52 69 11 17 79 (hRM 17) flX11_44 rfl rfl rfl (by decide) dX11_dies_49 rfl ?_
    refine V_iload_n 53 2 rfl rfl dX11_dies_52 rfl ?_
    refine V_ialdN 54 79 6 m (nI j) hh (by omega) (by decide) rfl (by decide) dX11_dies_53 rfl ?_
    refine V_istore_n 55 [(3, .int (nI j)), (2, .int (D m)), (0, rf G 69), (1, .int (nI m))] (by decide) rfl rfl dX11_dies_54 rfl ?_
    refine V_iload_n 56 1 rfl rfl dX11_dies_55 rfl ?_
    refine V_iconst 57 (-1) rfl dX11_dies_56 rfl ?_
    refine V_icmp_eq 99 60 rfl dX11_dies_57 rfl (fun c57 => ?_) (fun c57 => ?_)
    · refine V_ret_v rfl (Nat.le_refl _) (fun h => absurd h (by decide)) (Nat.le_refl _) (hq _ (by rw [upd_if (fun q => q.2.trans c57.symm)]; exact hE) hF) dX11_dies_99
    · refine V_iload_n 61 0 rfl rfl dX11_dies_60 rfl ?_
      refine V_iconst 62 (-1) rfl dX11_dies_61 rfl ?_
      refine V_icmp_eq 99 65 rfl dX11_dies_62 rfl (fun c62 => absurd c62 (nI_ne (by omega))) (fun c62 => ?_)
      refine V_aload_n 66 2 rfl _ rfl rfl dX11_dies_65 rfl ?_
      refine V_getR 69 69 11 41 89 (hRM 41) flX11_74 rfl rfl rfl (by decide) dX11_dies_66 rfl ?_
      refine V_bipush 71 (30) rfl dX11_dies_69 rfl ?_
      refine V_iload_n 72 0 rfl rfl dX11_dies_71 rfl ?_
      refine V_iadd 73 dX11_dies_72 rfl ?_
      refine V_rw (nI_add 30 j) ?_
      refine V_ialdN 74 89 51 (30 + j) (dE D m (30 + j)) (hE (30 + j) (by omega)) (by omega) (by decide) rfl (by decide) dX11_dies_73 rfl ?_
      refine V_iconst 75 (1) rfl dX11_dies_74 rfl ?_
      refine V_icmp_ne 99 78 rfl dX11_dies_75 rfl (fun c75 => ?_) (fun c75 => ?_)
      · refine V_ret_v rfl (Nat.le_refl _) (fun h => absurd h (by decide)) (Nat.le_refl _) (hq _ (by rw [if_neg (fun q => by first | exact c75 q.1 | exact c87 q.2)]; exact hE) hF) dX11_dies_99
      · refine V_aload_n 79 2 rfl _ rfl rfl dX11_dies_78 rfl ?_
        refine V_getR 82 69 11 41 89 (hRM 41) flX11_74 rfl rfl rfl (by decide) dX11_dies_79 rfl ?_
        refine V_iconst 83 (0) rfl dX11_dies_82 rfl ?_
        refine V_iload_n 84 0 rfl rfl dX11_dies_83 rfl ?_
        refine V_iadd 85 dX11_dies_84 rfl ?_
        refine V_rw (nI_z _) ?_
        refine V_ialdN 86 89 51 j (dE D m j) (hE j (by omega)) (by omega) (by decide) rfl (by decide) dX11_dies_85 rfl ?_
        refine V_iconst 87 (-1) rfl dX11_dies_86 rfl ?_
        refine V_icmp_ne 99 90 rfl dX11_dies_87 rfl (fun c87 => ?_) (fun c87 => ?_)
        · refine V_ret_v rfl (Nat.le_refl _) (fun h => absurd h (by decide)) (Nat.le_refl _) (hq _ (by rw [if_neg (fun q => by first | exact c75 q.1 | exact c87 q.2)]; exact hE) hF) dX11_dies_99
        · refine V_aload_n 91 2 rfl _ rfl rfl dX11_dies_90 rfl ?_
          refine V_getR 94 69 11 41 89 (hRM 41) flX11_74 rfl rfl rfl (by decide) dX11_dies_91 rfl ?_
          refine V_iconst 95 (0) rfl dX11_dies_94 rfl ?_
          refine V_iload_n 96 0 rfl rfl dX11_dies_95 rfl ?_
          refine V_iadd 97 dX11_dies_96 rfl ?_
          refine V_rw (nI_z _) ?_
          refine V_iload_n 98 1 rfl rfl dX11_dies_97 rfl ?_
          refine V_iastN 99 89 51 j (by omega) (by decide) rfl (by decide) dX11_dies_98 rfl ?_
          refine V_ret_v rfl (Nat.le_refl _) (fun h => absurd h (by decide)) (Nat.le_refl _) (hq _ (by rw [if_pos ⟨c75, c87⟩]; exact DayM_u hE (by omega)) hF.up) dX11_dies_99
set_option maxHeartbeats 4000000 in
theorem c_X11_comesHome {G : Gx} {d : Nat} {I : FI} {R : FR} {J : FJ} {Q : Po} (hRM : ∀ k, R 69 k = refM k) {D : DV} {m : Nat} (hM : DayM I D) (hm : m < 6) (h0 : D (6 + m) = -1 → Q (.inl (some (.int 0))) 103 I R J) (h1 : ¬ D (6 + m) = -1 → ∀ I', DayM I' (dHome D m) → FrD I I' → Q (.inl (some (.int 1))) 103 I' R J) : Cc G mX11_comesHome d 0 0 [rf G 69, .int (nI m)] 103 I R J Q := by
  show V _ _ _ _ _ _ _ _ [(0, rf G 69), (1, .int (nI m))] [] _ _ _ _ _
  refine V_aload_n 1 0 rfl _ rfl rfl dX11_comesHome_0 rfl ?_
  refine V_getR 4 69 11 41 89 (hRM 41) flX11_74 rfl rfl rfl (by decide) dX11_comesHome_1 rfl ?_
  refine V_bipush 6 (6) rfl dX11_comesHome_4 rfl ?_
  refine V_iload_n 7 1 rfl rfl dX11_comesHome_6 rfl ?_
  refine V_iadd 8 dX11_comesHome_7 rfl ?_
  refine V_rw (nI_add 6 m) ?_
  refine V_ialdN 9 89 51 (6 + m) (D ((6 + m))) (hM ((6 + m)) (by omega)) (by omega) (by decide) rfl (by decide) dX11_comesHome_8 rfl ?_
  refine V_iconst 10 (-1) rfl dX11_comesHome_9 rfl ?_
  refine V_icmp_ne 15 13 rfl dX11_comesHome_10 rfl (fun c10 => ?_) (fun c10 => ?_)
  · refine V_aload_n 16 0 rfl _ rfl rfl dX11_comesHome_15 rfl ?_
    refine V_getR 19 69 11 41 89 (hRM 41) flX11_74 rfl rfl rfl (by decide) dX11_comesHome_16 rfl ?_
    refine V_bipush 21 (6) rfl dX11_comesHome_19 rfl ?_
    refine V_iload_n 22 1 rfl rfl dX11_comesHome_21 rfl ?_
    refine V_iadd 23 dX11_comesHome_22 rfl ?_
    refine V_rw (nI_add 6 m) ?_
    refine V_iconst 24 (-1) rfl dX11_comesHome_23 rfl ?_
    refine V_iastN 25 89 51 (6 + m) (by omega) (by decide) rfl (by decide) dX11_comesHome_24 rfl ?_
    refine V_aload_n 26 0 rfl _ rfl rfl dX11_comesHome_25 rfl ?_
    refine V_getR 29 69 11 41 89 (hRM 41) flX11_74 rfl rfl rfl (by decide) dX11_comesHome_26 rfl ?_
    refine V_bipush 31 (12) rfl dX11_comesHome_29 rfl ?_
    refine V_iload_n 32 1 rfl rfl dX11_comesHome_31 rfl ?_
    refine V_iadd 33 dX11_comesHome_32 rfl ?_
    refine V_rw (nI_add 12 m) ?_
    refine V_iconst 34 (0) rfl dX11_comesHome_33 rfl ?_
    refine V_iastN 35 89 51 (12 + m) (by omega) (by decide) rfl (by decide) dX11_comesHome_34 rfl ?_
    refine V_iconst 36 (1) rfl dX11_comesHome_35 rfl ?_
    refine V_ret_i rfl (by first | rfl | decide) (Nat.le_refl _) (fun h => absurd h (by decide)) (Nat.le_refl _) (h1 c10 _ (by rw [dHome, if_neg c10]; exact DayM_u (DayM_u hM (by omega)) (by omega)) FrD.rf.up.up) dX11_comesHome_36
  · refine V_iconst 14 (0) rfl dX11_comesHome_13 rfl ?_
    refine V_ret_i rfl (by first | rfl | decide) (Nat.le_refl _) (fun h => absurd h (by decide)) (Nat.le_refl _) (h0 c10) dX11_comesHome_14
set_option maxHeartbeats 4000000 in
theorem c_X11_wears {G : Gx} {d : Nat} {I : FI} {R : FR} {J : FJ} {Q : Po} (hRM : ∀ k, R 69 k = refM k) {K : CO} {D : DV} {m h : Nat} (hK : CoastM I K) (h6 : cM K ≤ 6) (hM : DayM I D) (hF : Flg D) (hB : Bey K D) (hm : m < 6) (hh : h < 8) (h0 : ¬ (D (30 + m) = 1 ∧ wearF D (nI h) 6 0 = -1) → Q (.inl (some (.int 0))) 103 I R J) (h1 : D (30 + m) = 1 → wearF D (nI h) 6 0 = -1 → ∀ I', DayM I' (upd D m (nI h)) → FrD I I' → Q (.inl (some (.int 1))) 103 I' R J) : Cc G mX11_wears (d + 1) 0 0 [rf G 69, .int (nI m), .int (nI h)] 103 I R J Q := by
  have ew := wearF_to (D := D) (show h < 2 ^ 31 by omega) h6 (fun j a b => (hB j a b).1)
  show V _ _ _ _ _ _ _ _ [(0, rf G 69), (1, .int (nI m)), (2, .int (nI h))] [] _ _ _ _ _
  refine V_aload_n 1 0 rfl _ rfl rfl dX11_wears_0 rfl ?_
  refine V_getR 4 69 11 41 89 (hRM 41) flX11_74 rfl rfl rfl (by decide) dX11_wears_1 rfl ?_
  refine V_bipush 6 (30) rfl dX11_wears_4 rfl ?_
  refine V_iload_n 7 1 rfl rfl dX11_wears_6 rfl ?_
  refine V_iadd 8 dX11_wears_7 rfl ?_
  refine V_rw (nI_add 30 m) ?_
  refine V_ialdN 9 89 51 (30 + m) (D ((30 + m))) (hM ((30 + m)) (by omega)) (by omega) (by decide) rfl (by decide) dX11_wears_8 rfl ?_
  refine V_if_eq 21 12 rfl dX11_wears_9 rfl (fun c9 => ?_) (fun c9 => ?_)
  · refine V_iconst 22 (0) rfl dX11_wears_21 rfl ?_
    refine V_ret_i rfl (by first | rfl | decide) (Nat.le_refl _) (fun h => absurd h (by decide)) (Nat.le_refl _) (h0 (fun q => by first | exact c18 q.2 | (rw [c9] at q; exact absurd q.1 (by decide)))) dX11_wears_22
  · refine V_aload_n 13 0 rfl _ rfl rfl dX11_wears_12 rfl ?_
    refine V_iload_n 14 2 rfl rfl dX11_wears_13 rfl ?_
    refine V_callV (K' := 0) (S' := 0) 17 69 11 1 [.int (nI h)] mkX11_wearerOf lkX11_361 (by decide) rfl rfl (by decide) rfl (Nat.le_of_ble_eq_true rfl) (Nat.le_of_ble_eq_true rfl) (Nat.le_of_ble_eq_true rfl) (Nat.le_of_ble_eq_true rfl) rfl rfl dX11_wears_14 rfl (c_X11_wearerOf hRM hK h6 hM ?_)
    rw [← ew]
    refine Kq_i (k' := 0) (sl' := 0) rfl rfl ?_
    refine V_iconst 18 (-1) rfl dX11_wears_17 rfl ?_
    refine V_icmp_eq 23 21 rfl dX11_wears_18 rfl (fun c18 => ?_) (fun c18 => ?_)
    · refine V_aload_n 24 0 rfl _ rfl rfl dX11_wears_23 rfl ?_
      refine V_getR 27 69 11 41 89 (hRM 41) flX11_74 rfl rfl rfl (by decide) dX11_wears_24 rfl ?_
      refine V_iconst 28 (0) rfl dX11_wears_27 rfl ?_
      refine V_iload_n 29 1 rfl rfl dX11_wears_28 rfl ?_
      refine V_iadd 30 dX11_wears_29 rfl ?_
      refine V_rw (nI_z _) ?_
      refine V_iload_n 31 2 rfl rfl dX11_wears_30 rfl ?_
      refine V_iastN 32 89 51 m (by omega) (by decide) rfl (by decide) dX11_wears_31 rfl ?_
      refine V_iconst 33 (1) rfl dX11_wears_32 rfl ?_
      refine V_ret_i rfl (by first | rfl | decide) (Nat.le_refl _) (fun h => absurd h (by decide)) (Nat.le_refl _) (h1 ((hF m hm).resolve_left c9) c18 _ (DayM_u hM (by omega)) FrD.rf.up) dX11_wears_33
    · refine V_iconst 22 (0) rfl dX11_wears_21 rfl ?_
      refine V_ret_i rfl (by first | rfl | decide) (Nat.le_refl _) (fun h => absurd h (by decide)) (Nat.le_refl _) (h0 (fun q => by first | exact c18 q.2 | (rw [c9] at q; exact absurd q.1 (by decide)))) dX11_wears_22
set_option maxHeartbeats 4000000 in
theorem c_X11_sails {G : Gx} {d : Nat} {I : FI} {R : FR} {J : FJ} {Q : Po} (hRM : ∀ k, R 69 k = refM k) {D : DV} {m g : Nat} (hM : DayM I D) (hF : Flg D) (hm : m < 6) (h0 : ¬ (D (30 + m) = 1 ∧ ¬ D (6 + m) = nI g ∧ ¬ D m = -1) → Q (.inl (some (.int 0))) 103 I R J) (h1 : D (30 + m) = 1 → ¬ D (6 + m) = nI g → ¬ D m = -1 → ∀ I', DayM I' (upd (upd D (6 + m) (nI g)) (12 + m) 0) → FrD I I' → Q (.inl (some (.int 1))) 103 I' R J) : Cc G mX11_sails d 0 0 [rf G 69, .int (nI m), .int (nI g)] 103 I R J Q := by
  show V _ _ _ _ _ _ _ _ [(0, rf G 69), (1, .int (nI m)), (2, .int (nI g))] [] _ _ _ _ _
  refine V_aload_n 1 0 rfl _ rfl rfl dX11_sails_0 rfl ?_
  refine V_getR 4 69 11 41 89 (hRM 41) flX11_74 rfl rfl rfl (by decide) dX11_sails_1 rfl ?_
  refine V_bipush 6 (30) rfl dX11_sails_4 rfl ?_
  refine V_iload_n 7 1 rfl rfl dX11_sails_6 rfl ?_
  refine V_iadd 8 dX11_sails_7 rfl ?_
  refine V_rw (nI_add 30 m) ?_
  refine V_ialdN 9 89 51 (30 + m) (D ((30 + m))) (hM ((30 + m)) (by omega)) (by omega) (by decide) rfl (by decide) dX11_sails_8 rfl ?_
  refine V_if_eq 37 12 rfl dX11_sails_9 rfl (fun c9 => ?_) (fun c9 => ?_)
  · refine V_iconst 38 (0) rfl dX11_sails_37 rfl ?_
    refine V_ret_i rfl (by first | rfl | decide) (Nat.le_refl _) (fun h => absurd h (by decide)) (Nat.le_refl _) (h0 (fun q => by first | exact q.2.2 c34 | exact q.2.1 c22 | (rw [c9] at q; exact absurd q.1 (by decide)))) dX11_sails_38
  · refine V_aload_n 13 0 rfl _ rfl rfl dX11_sails_12 rfl ?_
    refine V_getR 16 69 11 41 89 (hRM 41) flX11_74 rfl rfl rfl (by decide) dX11_sails_13 rfl ?_
    refine V_bipush 18 (6) rfl dX11_sails_16 rfl ?_
    refine V_iload_n 19 1 rfl rfl dX11_sails_18 rfl ?_
    refine V_iadd 20 dX11_sails_19 rfl ?_
    refine V_rw (nI_add 6 m) ?_
    refine V_ialdN 21 89 51 (6 + m) (D ((6 + m))) (hM ((6 + m)) (by omega)) (by omega) (by decide) rfl (by decide) dX11_sails_20 rfl ?_
    refine V_iload_n 22 2 rfl rfl dX11_sails_21 rfl ?_
    refine V_icmp_eq 37 25 rfl dX11_sails_22 rfl (fun c22 => ?_) (fun c22 => ?_)
    · refine V_iconst 38 (0) rfl dX11_sails_37 rfl ?_
      refine V_ret_i rfl (by first | rfl | decide) (Nat.le_refl _) (fun h => absurd h (by decide)) (Nat.le_refl _) (h0 (fun q => by first | exact q.2.2 c34 | exact q.2.1 c22 | (rw [c9] at q; exact absurd q.1 (by decide)))) dX11_sails_38
    · refine V_aload_n 26 0 rfl _ rfl rfl dX11_sails_25 rfl ?_
      refine V_getR 29 69 11 41 89 (hRM 41) flX11_74 rfl rfl rfl (by decide) dX11_sails_26 rfl ?_
      refine V_iconst 30 (0) rfl dX11_sails_29 rfl ?_
      refine V_iload_n 31 1 rfl rfl dX11_sails_30 rfl ?_
      refine V_iadd 32 dX11_sails_31 rfl ?_
      refine V_rw (nI_z _) ?_
      refine V_ialdN 33 89 51 m (D m) (hM (m) (by omega)) (by omega) (by decide) rfl (by decide) dX11_sails_32 rfl ?_
      refine V_iconst 34 (-1) rfl dX11_sails_33 rfl ?_
      refine V_icmp_ne 39 37 rfl dX11_sails_34 rfl (fun c34 => ?_) (fun c34 => ?_)
      · refine V_aload_n 40 0 rfl _ rfl rfl dX11_sails_39 rfl ?_
        refine V_getR 43 69 11 41 89 (hRM 41) flX11_74 rfl rfl rfl (by decide) dX11_sails_40 rfl ?_
        refine V_bipush 45 (6) rfl dX11_sails_43 rfl ?_
        refine V_iload_n 46 1 rfl rfl dX11_sails_45 rfl ?_
        refine V_iadd 47 dX11_sails_46 rfl ?_
        refine V_rw (nI_add 6 m) ?_
        refine V_iload_n 48 2 rfl rfl dX11_sails_47 rfl ?_
        refine V_iastN 49 89 51 (6 + m) (by omega) (by decide) rfl (by decide) dX11_sails_48 rfl ?_
        refine V_aload_n 50 0 rfl _ rfl rfl dX11_sails_49 rfl ?_
        refine V_getR 53 69 11 41 89 (hRM 41) flX11_74 rfl rfl rfl (by decide) dX11_sails_50 rfl ?_
        refine V_bipush 55 (12) rfl dX11_sails_53 rfl ?_
        refine V_iload_n 56 1 rfl rfl dX11_sails_55 rfl ?_
        refine V_iadd 57 dX11_sails_56 rfl ?_
        refine V_rw (nI_add 12 m) ?_
        refine V_iconst 58 (0) rfl dX11_sails_57 rfl ?_
        refine V_iastN 59 89 51 (12 + m) (by omega) (by decide) rfl (by decide) dX11_sails_58 rfl ?_
        refine V_iconst 60 (1) rfl dX11_sails_59 rfl ?_
        refine V_ret_i rfl (by first | rfl | decide) (Nat.le_refl _) (fun h => absurd h (by decide)) (Nat.le_refl _) (h1 ((hF m hm).resolve_left c9) c22 c34 _ (DayM_u (DayM_u hM (by omega)) (by omega)) FrD.rf.up.up) dX11_sails_60
      · refine V_iconst 38 (0) rfl dX11_sails_37 rfl ?_
        refine V_ret_i rfl (by first | rfl | decide) (Nat.le_refl _) (fun h => absurd h (by decide)) (Nat.le_refl _) (h0 (fun q => by first | exact q.2.2 c34 | exact q.2.1 c22 | (rw [c9] at q; exact absurd q.1 (by decide)))) dX11_sails_38
