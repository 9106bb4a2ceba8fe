/-! ===== STEPS done, as the reference does them ===== -/
def MtN (I : FI) (i : Nat) (s : Nat × Nat × Nat × Nat) : Prop := I 87 (3 * i) = nI s.1 ∧ I 87 (3 * i + 1) = nI s.2.1 ∧ I 87 (3 * i + 2) = if s.1 = 7 then nI (3 * s.2.2.2) else nI s.2.2.1
def FrXm (I I' : FI) : Prop := (∀ a, a ≠ 69 → a ≠ 84 → a ≠ 85 → a ≠ 89 → a ≠ 91 → I' a = I a) ∧ ∀ j, j ≠ 54 → j ≠ 37 → j ≠ 38 → j ≠ 39 → I' 69 j = I 69 j
theorem FrXm.rf {I : FI} : FrXm I I := ⟨fun _ _ _ _ _ _ => rfl, fun _ _ _ _ _ => rfl⟩
theorem FrXm.tr {I I1 I2 : FI} (h : FrXm I I1) (h2 : FrXm I1 I2) : FrXm I I2 := ⟨fun a a1 a2 a3 a4 a5 => (h2.1 a a1 a2 a3 a4 a5).trans (h.1 a a1 a2 a3 a4 a5), fun j q1 q2 q3 q4 => (h2.2 j q1 q2 q3 q4).trans (h.2 j q1 q2 q3 q4)⟩
theorem FrXm.S {I I' : FI} (h : FrS I I') : FrXm I I' := ⟨fun a _ q2 q3 q4 q5 => h a q2 q3 q4 q5, fun j _ _ _ _ => by rw [h 69 (by decide) (by decide) (by decide) (by decide)]⟩
theorem FrXm.u {I I' : FI} {j : Nat} {v : Int32} (h : FrXm I I') (hj : j = 37 ∨ j = 38 ∨ j = 39) : FrXm I (up2 I' 69 j v) := ⟨fun a q1 q2 q3 q4 q5 => by rw [up2_n _ _ _ q1]; exact h.1 a q1 q2 q3 q4 q5, fun k q1 q2 q3 q4 => by rw [up2_s, upd_n (by omega)]; exact h.2 k q1 q2 q3 q4⟩
def MX (I : FI) (R : FR) (K : CO) (f : DV → Int32) (N : Nat) (S : SR) (D : DV) : Prop := (∀ k, R 69 k = refM k) ∧ CoastM I K ∧ WK K ∧ LawM I f ∧ N ≤ 31 ∧ (∀ i, i < N → MtN I i (S i)) ∧ DayM I D
theorem MX.fr {I I' : FI} {R : FR} {K : CO} {f : DV → Int32} {N : Nat} {S : SR} {D D' : DV} (h : MX I R K f N S D) (hf : FrXm I I') (hD : DayM I' D') : MX I' R K f N S D' := by
  obtain ⟨h1, h2, h3, h4, h5, h6, h7⟩ := h
  refine ⟨h1, h2.fr (hf.2 21 (by decide) (by decide) (by decide) (by decide)) (hf.2 22 (by decide) (by decide) (by decide) (by decide)) (hf.2 23 (by decide) (by decide) (by decide) (by decide)) (fun a q1 q2 => hf.1 a (by omega) (by omega) (by omega) (by omega) (by omega)), h3, h4.fr (hf.2 30 (by decide) (by decide) (by decide) (by decide)) (hf.1 82 (by decide) (by decide) (by decide) (by decide) (by decide)) (hf.1 83 (by decide) (by decide) (by decide) (by decide) (by decide)), h5, fun i hi => ?_, hD⟩
  have e := hf.1 87 (by decide) (by decide) (by decide) (by decide) (by decide)
  unfold MtN
  rw [e]; exact h6 i hi
theorem DayM69 {I : FI} {j : Nat} {v : Int32} {D : DV} (h : DayM I D) : DayM (up2 I 69 j v) D := fun k hk => by rw [up2_n _ _ _ (by decide)]; exact h k hk
theorem nI_pl3 {i : Nat} : nI (3 * i) + Int32.ofInt 3 = nI (3 * (i + 1)) := by
  show nI (3 * i) + nI 3 = nI (3 * (i + 1))
  rw [nI_add]; congr 1
theorem up69 {I : FI} {j k : Nat} {v : Int32} (h : k ≠ j) : up2 I 69 j v 69 k = I 69 k := by rw [up2_s, upd_n h]
set_option maxHeartbeats 8000000 in
theorem c_X11_goes {G : Gx} {d : Nat} {I : FI} {R : FR} {J : FJ} {Q : Po} {K : CO} {f : DV → Int32} {N : Nat} {S : SR} {D : DV} (hX : MX I R K f N S D) (hDI : DI K D) (hLX : LX D) {k a b : Nat} (hk6 : k ≤ 6) (ho : OpOk K k a b) (h1 : ∀ D' I', goF K f D k a b = some D' → DayM I' D' → I' 69 = I 69 → FrXm I I' → Q (.inl (some (.int 1))) 103 I' R J) (h0 : goF K f D k a b = none → Q (.inl (some (.int 0))) 103 I R J) : Cc G mX11_goes (d + 10) 0 0 [rf G 69, .int (nI k), .int (nI a), .int (nI b)] 103 I R J Q := by
  obtain ⟨hRM, hK, hW, hL, hN, hSt, hM⟩ := hX
  have h8 := hW.1
  have hg6 := hW.2.1
  have h6 := hW.2.2.1
  have hFl := hDI.1.1
  have hBy := hDI.2.2.1
  obtain ⟨o0, o1, o2, o3, o4, o5⟩ := ho
  rcases (show k = 0 ∨ k = 1 ∨ k = 2 ∨ k = 3 ∨ k = 4 ∨ k = 5 ∨ k = 6 by omega) with rfl | rfl | rfl | rfl | rfl | rfl | rfl
  · show V _ _ _ _ _ _ _ _ [(0, rf G 69), (1, .int 0), (2, .int (nI a)), (3, .int (nI b))] [] _ _ _ _ _
    obtain ⟨q1, q2⟩ := o0 rfl
    refine V_iload_n 1 1 rfl rfl dX11_goes_0 rfl ?_
    refine V_if_ne 11 4 rfl dX11_goes_1 rfl (fun c1 => absurd c1 (by decide)) (fun c1 => ?_)
    refine V_aload_n 5 0 rfl _ rfl rfl dX11_goes_4 rfl ?_
    refine V_iload_n 6 2 rfl rfl dX11_goes_5 rfl ?_
    refine V_iload_n 7 3 rfl rfl dX11_goes_6 rfl ?_
    refine V_callV (K' := 0) (S' := 0) 10 69 11 2 [.int (nI a), .int (nI b)] mkX11_wears lkX11_364 (by decide) rfl rfl (by decide) rfl (Nat.le_of_ble_eq_true rfl) (Nat.le_of_ble_eq_true rfl) (Nat.le_of_ble_eq_true rfl) (Nat.le_of_ble_eq_true rfl) rfl rfl dX11_goes_7 rfl (c_X11_wears hRM hK h6 hM hFl hBy (by omega) (by omega) (fun e1 => ?_) (fun e1 e2 I1 hM1 hF1 => ?_))
    · refine Kq_i (k' := 0) (sl' := 0) rfl rfl ?_
      refine V_ret_i rfl (by first | rfl | decide) (Nat.le_of_ble_eq_true rfl) (fun h => absurd h (by decide)) (Nat.le_of_ble_eq_true rfl) (h0 (if_neg e1)) dX11_goes_10
    · refine Kq_i (k' := 0) (sl' := 0) rfl rfl ?_
      refine V_ret_i rfl (by first | rfl | decide) (Nat.le_of_ble_eq_true rfl) (fun h => absurd h (by decide)) (Nat.le_of_ble_eq_true rfl) (h1 _ I1 (if_pos ⟨e1, e2⟩) hM1 (hF1 69 (by decide)) (FrXm.S hF1.S)) dX11_goes_10
  · show V _ _ _ _ _ _ _ _ [(0, rf G 69), (1, .int 1), (2, .int (nI a)), (3, .int (nI b))] [] _ _ _ _ _
    have q1 := o1 rfl
    refine V_iload_n 1 1 rfl rfl dX11_goes_0 rfl ?_
    refine V_if_ne 11 4 rfl dX11_goes_1 rfl (fun c1 => ?_) (fun c1 => absurd c1 (by decide))
    refine V_iload_n 12 1 rfl rfl dX11_goes_11 rfl ?_
    refine V_iconst 13 (2) rfl dX11_goes_12 rfl ?_
    refine V_icmp_ne 23 16 rfl dX11_goes_13 rfl (fun c13 => ?_) (fun c13 => absurd c13 (by decide))
    refine V_iload_n 24 1 rfl rfl dX11_goes_23 rfl ?_
    refine V_iconst 25 (3) rfl dX11_goes_24 rfl ?_
    refine V_icmp_ne 34 28 rfl dX11_goes_25 rfl (fun c25 => ?_) (fun c25 => absurd c25 (by decide))
    refine V_iload_n 35 1 rfl rfl dX11_goes_34 rfl ?_
    refine V_iconst 36 (1) rfl dX11_goes_35 rfl ?_
    refine V_icmp_ne 64 39 rfl dX11_goes_36 rfl (fun c36 => absurd c36 (by decide)) (fun c36 => ?_)
    refine V_aload_n 40 0 rfl _ rfl rfl dX11_goes_39 rfl ?_
    refine V_getR 43 69 11 41 89 (hRM 41) flX11_74 rfl rfl rfl (by decide) dX11_goes_40 rfl ?_
    refine V_iconst 44 (0) rfl dX11_goes_43 rfl ?_
    refine V_iload_n 45 2 rfl rfl dX11_goes_44 rfl ?_
    refine V_iadd 46 dX11_goes_45 rfl ?_
    refine V_rw (nI_z _) ?_
    refine V_ialdN 47 89 51 a (D a) (hM a (by omega)) (by omega) (by decide) rfl (by decide) dX11_goes_46 rfl ?_
    refine V_iconst 48 (-1) rfl dX11_goes_47 rfl ?_
    refine V_icmp_ne 53 51 rfl dX11_goes_48 rfl (fun c48 => ?_) (fun c48 => ?_)
    · refine V_aload_n 54 0 rfl _ rfl rfl dX11_goes_53 rfl ?_
      refine V_getR 57 69 11 41 89 (hRM 41) flX11_74 rfl rfl rfl (by decide) dX11_goes_54 rfl ?_
      refine V_iconst 58 (0) rfl dX11_goes_57 rfl ?_
      refine V_iload_n 59 2 rfl rfl dX11_goes_58 rfl ?_
      refine V_iadd 60 dX11_goes_59 rfl ?_
      refine V_rw (nI_z _) ?_
      refine V_iconst 61 (-1) rfl dX11_goes_60 rfl ?_
      refine V_iastN 62 89 51 a (by omega) (by decide) rfl (by decide) dX11_goes_61 rfl ?_
      refine V_iconst 63 (1) rfl dX11_goes_62 rfl ?_
      refine V_ret_i rfl (by first | rfl | decide) (Nat.le_of_ble_eq_true rfl) (fun h => absurd h (by decide)) (Nat.le_of_ble_eq_true rfl) (h1 _ _ (if_neg c48) (DayM_u hM (by omega)) (up2_n _ _ _ (by decide)) (FrXm.S FrD.rf.up.S)) dX11_goes_63
    · refine V_iconst 52 (0) rfl dX11_goes_51 rfl ?_
      refine V_ret_i rfl (by first | rfl | decide) (Nat.le_of_ble_eq_true rfl) (fun h => absurd h (by decide)) (Nat.le_of_ble_eq_true rfl) (h0 (if_pos c48)) dX11_goes_52
  · show V _ _ _ _ _ _ _ _ [(0, rf G 69), (1, .int 2), (2, .int (nI a)), (3, .int (nI b))] [] _ _ _ _ _
    obtain ⟨q1, q2⟩ := o2 rfl
    refine V_iload_n 1 1 rfl rfl dX11_goes_0 rfl ?_
    refine V_if_ne 11 4 rfl dX11_goes_1 rfl (fun c1 => ?_) (fun c1 => absurd c1 (by decide))
    refine V_iload_n 12 1 rfl rfl dX11_goes_11 rfl ?_
    refine V_iconst 13 (2) rfl dX11_goes_12 rfl ?_
    refine V_icmp_ne 23 16 rfl dX11_goes_13 rfl (fun c13 => absurd c13 (by decide)) (fun c13 => ?_)
    refine V_aload_n 17 0 rfl _ rfl rfl dX11_goes_16 rfl ?_
    refine V_iload_n 18 2 rfl rfl dX11_goes_17 rfl ?_
    refine V_iload_n 19 3 rfl rfl dX11_goes_18 rfl ?_
    refine V_callV (K' := 0) (S' := 0) 22 69 11 2 [.int (nI a), .int (nI b)] mkX11_sails lkX11_368 (by decide) rfl rfl (by decide) rfl (Nat.le_of_ble_eq_true rfl) (Nat.le_of_ble_eq_true rfl) (Nat.le_of_ble_eq_true rfl) (Nat.le_of_ble_eq_true rfl) rfl rfl dX11_goes_19 rfl (c_X11_sails hRM hM hFl (by omega) (fun e1 => ?_) (fun e1 e2 e3 I1 hM1 hF1 => ?_))
    · refine Kq_i (k' := 0) (sl' := 0) rfl rfl ?_
      refine V_ret_i rfl (by first | rfl | decide) (Nat.le_of_ble_eq_true rfl) (fun h => absurd h (by decide)) (Nat.le_of_ble_eq_true rfl) (h0 (if_neg e1)) dX11_goes_22
    · refine Kq_i (k' := 0) (sl' := 0) rfl rfl ?_
      refine V_ret_i rfl (by first | rfl | decide) (Nat.le_of_ble_eq_true rfl) (fun h => absurd h (by decide)) (Nat.le_of_ble_eq_true rfl) (h1 _ I1 (if_pos ⟨e1, e2, e3⟩) hM1 (hF1 69 (by decide)) (FrXm.S hF1.S)) dX11_goes_22
  · show V _ _ _ _ _ _ _ _ [(0, rf G 69), (1, .int 3), (2, .int (nI a)), (3, .int (nI b))] [] _ _ _ _ _
    have q1 := o3 rfl
    refine V_iload_n 1 1 rfl rfl dX11_goes_0 rfl ?_
    refine V_if_ne 11 4 rfl dX11_goes_1 rfl (fun c1 => ?_) (fun c1 => absurd c1 (by decide))
    refine V_iload_n 12 1 rfl rfl dX11_goes_11 rfl ?_
    refine V_iconst 13 (2) rfl dX11_goes_12 rfl ?_
    refine V_icmp_ne 23 16 rfl dX11_goes_13 rfl (fun c13 => ?_) (fun c13 => absurd c13 (by decide))
    refine V_iload_n 24 1 rfl rfl dX11_goes_23 rfl ?_
    refine V_iconst 25 (3) rfl dX11_goes_24 rfl ?_
    refine V_icmp_ne 34 28 rfl dX11_goes_25 rfl (fun c25 => absurd c25 (by decide)) (fun c25 => ?_)
    refine V_aload_n 29 0 rfl _ rfl rfl dX11_goes_28 rfl ?_
    refine V_iload_n 30 2 rfl rfl dX11_goes_29 rfl ?_
    refine V_callV (K' := 0) (S' := 0) 33 69 11 1 [.int (nI a)] mkX11_comesHome lkX11_371 (by decide) rfl rfl (by decide) rfl (Nat.le_of_ble_eq_true rfl) (Nat.le_of_ble_eq_true rfl) (Nat.le_of_ble_eq_true rfl) (Nat.le_of_ble_eq_true rfl) rfl rfl dX11_goes_30 rfl (c_X11_comesHome hRM hM (by omega) (fun e1 => ?_) (fun e1 I1 hM1 hF1 => ?_))
    · refine Kq_i (k' := 0) (sl' := 0) rfl rfl ?_
      refine V_ret_i rfl (by first | rfl | decide) (Nat.le_of_ble_eq_true rfl) (fun h => absurd h (by decide)) (Nat.le_of_ble_eq_true rfl) (h0 (if_pos e1)) dX11_goes_33
    · refine Kq_i (k' := 0) (sl' := 0) rfl rfl ?_
      refine V_ret_i rfl (by first | rfl | decide) (Nat.le_of_ble_eq_true rfl) (fun h => absurd h (by decide)) (Nat.le_of_ble_eq_true rfl) (h1 _ I1 (if_neg e1) hM1 (hF1 69 (by decide)) (FrXm.S hF1.S)) dX11_goes_33
  · show V _ _ _ _ _ _ _ _ [(0, rf G 69), (1, .int 4), (2, .int (nI a)), (3, .int (nI b))] [] _ _ _ _ _
    have q1 := o4 rfl
    obtain ⟨q, hq9, eq⟩ := hLX.1 a (by omega)
    by_cases c9 : D (36 + a) < 9
    · refine V_iload_n 1 1 rfl rfl dX11_goes_0 rfl ?_
      refine V_if_ne 11 4 rfl dX11_goes_1 rfl (fun c1 => ?_) (fun c1 => absurd c1 (by decide))
      refine V_iload_n 12 1 rfl rfl dX11_goes_11 rfl ?_
      refine V_iconst 13 (2) rfl dX11_goes_12 rfl ?_
      refine V_icmp_ne 23 16 rfl dX11_goes_13 rfl (fun c13 => ?_) (fun c13 => absurd c13 (by decide))
      refine V_iload_n 24 1 rfl rfl dX11_goes_23 rfl ?_
      refine V_iconst 25 (3) rfl dX11_goes_24 rfl ?_
      refine V_icmp_ne 34 28 rfl dX11_goes_25 rfl (fun c25 => ?_) (fun c25 => absurd c25 (by decide))
      refine V_iload_n 35 1 rfl rfl dX11_goes_34 rfl ?_
      refine V_iconst 36 (1) rfl dX11_goes_35 rfl ?_
      refine V_icmp_ne 64 39 rfl dX11_goes_36 rfl (fun c36 => ?_) (fun c36 => absurd c36 (by decide))
      refine V_iload_n 65 1 rfl rfl dX11_goes_64 rfl ?_
      refine V_iconst 66 (4) rfl dX11_goes_65 rfl ?_
      refine V_icmp_ne 100 69 rfl dX11_goes_66 rfl (fun c66 => absurd c66 (by decide)) (fun c66 => ?_)
      refine V_aload_n 70 0 rfl _ rfl rfl dX11_goes_69 rfl ?_
      refine V_getR 73 69 11 41 89 (hRM 41) flX11_74 rfl rfl rfl (by decide) dX11_goes_70 rfl ?_
      refine V_bipush 75 (36) rfl dX11_goes_73 rfl ?_
      refine V_iload_n 76 2 rfl rfl dX11_goes_75 rfl ?_
      refine V_iadd 77 dX11_goes_76 rfl ?_
      refine V_rw (nI_add 36 a) ?_
      refine V_ialdN 78 89 51 (36 + a) (D (36 + a)) (hM (36 + a) (by omega)) (by omega) (by decide) rfl (by decide) dX11_goes_77 rfl ?_
      refine V_bipush 80 (9) rfl dX11_goes_78 rfl ?_
      refine V_icmp_ne 85 83 rfl dX11_goes_80 rfl (fun c80 => ?_) (fun c80 => absurd c9 (by rw [c80]; decide))
      refine V_aload_n 86 0 rfl _ rfl rfl dX11_goes_85 rfl ?_
      refine V_getR 89 69 11 41 89 (hRM 41) flX11_74 rfl rfl rfl (by decide) dX11_goes_86 rfl ?_
      refine V_bipush 91 (36) rfl dX11_goes_89 rfl ?_
      refine V_iload_n 92 2 rfl rfl dX11_goes_91 rfl ?_
      refine V_iadd 93 dX11_goes_92 rfl ?_
      refine V_rw (nI_add 36 a) ?_
      refine V_dup2 94 rfl rfl dX11_goes_93 rfl ?_
      refine V_ialdN 95 89 51 (36 + a) (D (36 + a)) (hM (36 + a) (by omega)) (by omega) (by decide) rfl (by decide) dX11_goes_94 rfl ?_
      refine V_iconst 96 (1) rfl dX11_goes_95 rfl ?_
      refine V_iadd 97 dX11_goes_96 rfl ?_
      refine V_iastN 98 89 51 (36 + a) (by omega) (by decide) rfl (by decide) dX11_goes_97 rfl ?_
      refine V_iconst 99 (1) rfl dX11_goes_98 rfl ?_
      refine V_ret_i rfl (by first | rfl | decide) (Nat.le_of_ble_eq_true rfl) (fun h => absurd h (by decide)) (Nat.le_of_ble_eq_true rfl) (h1 _ _ (if_pos c9) (DayM_u hM (by omega)) (up2_n _ _ _ (by decide)) (FrXm.S FrD.rf.up.S)) dX11_goes_99
    · refine V_iload_n 1 1 rfl rfl dX11_goes_0 rfl ?_
      refine V_if_ne 11 4 rfl dX11_goes_1 rfl (fun c1 => ?_) (fun c1 => absurd c1 (by decide))
      refine V_iload_n 12 1 rfl rfl dX11_goes_11 rfl ?_
      refine V_iconst 13 (2) rfl dX11_goes_12 rfl ?_
      refine V_icmp_ne 23 16 rfl dX11_goes_13 rfl (fun c13 => ?_) (fun c13 => absurd c13 (by decide))
      refine V_iload_n 24 1 rfl rfl dX11_goes_23 rfl ?_
      refine V_iconst 25 (3) rfl dX11_goes_24 rfl ?_
      refine V_icmp_ne 34 28 rfl dX11_goes_25 rfl (fun c25 => ?_) (fun c25 => absurd c25 (by decide))
      refine V_iload_n 35 1 rfl rfl dX11_goes_34 rfl ?_
      refine V_iconst 36 (1) rfl dX11_goes_35 rfl ?_
      refine V_icmp_ne 64 39 rfl dX11_goes_36 rfl (fun c36 => ?_) (fun c36 => absurd c36 (by decide))
      refine V_iload_n 65 1 rfl rfl dX11_goes_64 rfl ?_
      refine V_iconst 66 (4) rfl dX11_goes_65 rfl ?_
      refine V_icmp_ne 100 69 rfl dX11_goes_66 rfl (fun c66 => absurd c66 (by decide)) (fun c66 => ?_)
      refine V_aload_n 70 0 rfl _ rfl rfl dX11_goes_69 rfl ?_
      refine V_getR 73 69 11 41 89 (hRM 41) flX11_74 rfl rfl rfl (by decide) dX11_goes_70 rfl ?_
      refine V_bipush 75 (36) rfl dX11_goes_73 rfl ?_
      refine V_iload_n 76 2 rfl rfl dX11_goes_75 rfl ?_
      refine V_iadd 77 dX11_goes_76 rfl ?_
      refine V_rw (nI_add 36 a) ?_
      refine V_ialdN 78 89 51 (36 + a) (D (36 + a)) (hM (36 + a) (by omega)) (by omega) (by decide) rfl (by decide) dX11_goes_77 rfl ?_
      refine V_bipush 80 (9) rfl dX11_goes_78 rfl ?_
      refine V_icmp_ne 85 83 rfl dX11_goes_80 rfl (fun c80 => absurd (show D (36 + a) = 9 from by rw [eq] at c9 ⊢; have := mt (nI_ltI (a := q) (b := 9) (by omega) (by decide)).mpr c9; rw [show q = 9 by omega]; rfl) c80) (fun c80 => ?_)
      refine V_iconst 84 (0) rfl dX11_goes_83 rfl ?_
      refine V_ret_i rfl (by first | rfl | decide) (Nat.le_of_ble_eq_true rfl) (fun h => absurd h (by decide)) (Nat.le_of_ble_eq_true rfl) (h0 (if_neg c9)) dX11_goes_84
  · show V _ _ _ _ _ _ _ _ [(0, rf G 69), (1, .int 5), (2, .int (nI a)), (3, .int (nI b))] [] _ _ _ _ _
    have q1 := o5 rfl
    by_cases cD : D (30 + a) = 1
    · refine V_iload_n 1 1 rfl rfl dX11_goes_0 rfl ?_
      refine V_if_ne 11 4 rfl dX11_goes_1 rfl (fun c1 => ?_) (fun c1 => absurd c1 (by decide))
      refine V_iload_n 12 1 rfl rfl dX11_goes_11 rfl ?_
      refine V_iconst 13 (2) rfl dX11_goes_12 rfl ?_
      refine V_icmp_ne 23 16 rfl dX11_goes_13 rfl (fun c13 => ?_) (fun c13 => absurd c13 (by decide))
      refine V_iload_n 24 1 rfl rfl dX11_goes_23 rfl ?_
      refine V_iconst 25 (3) rfl dX11_goes_24 rfl ?_
      refine V_icmp_ne 34 28 rfl dX11_goes_25 rfl (fun c25 => ?_) (fun c25 => absurd c25 (by decide))
      refine V_iload_n 35 1 rfl rfl dX11_goes_34 rfl ?_
      refine V_iconst 36 (1) rfl dX11_goes_35 rfl ?_
      refine V_icmp_ne 64 39 rfl dX11_goes_36 rfl (fun c36 => ?_) (fun c36 => absurd c36 (by decide))
      refine V_iload_n 65 1 rfl rfl dX11_goes_64 rfl ?_
      refine V_iconst 66 (4) rfl dX11_goes_65 rfl ?_
      refine V_icmp_ne 100 69 rfl dX11_goes_66 rfl (fun c66 => ?_) (fun c66 => absurd c66 (by decide))
      refine V_iload_n 101 1 rfl rfl dX11_goes_100 rfl ?_
      refine V_iconst 102 (5) rfl dX11_goes_101 rfl ?_
      refine V_icmp_ne 126 105 rfl dX11_goes_102 rfl (fun c102 => absurd c102 (by decide)) (fun c102 => ?_)
      refine V_aload_n 106 0 rfl _ rfl rfl dX11_goes_105 rfl ?_
      refine V_getR 109 69 11 41 89 (hRM 41) flX11_74 rfl rfl rfl (by decide) dX11_goes_106 rfl ?_
      refine V_bipush 111 (30) rfl dX11_goes_109 rfl ?_
      refine V_iload_n 112 2 rfl rfl dX11_goes_111 rfl ?_
      refine V_iadd 113 dX11_goes_112 rfl ?_
      refine V_rw (nI_add 30 a) ?_
      refine V_ialdN 114 89 51 (30 + a) (D (30 + a)) (hM (30 + a) (by omega)) (by omega) (by decide) rfl (by decide) dX11_goes_113 rfl ?_
      refine V_if_ne 119 117 rfl dX11_goes_114 rfl (fun c114 => ?_) (fun c114 => absurd c114 (by rw [cD]; decide))
      refine V_aload_n 120 0 rfl _ rfl rfl dX11_goes_119 rfl ?_
      refine V_iload_n 121 2 rfl rfl dX11_goes_120 rfl ?_
      refine V_callV (K' := 0) (S' := 0) 124 69 11 1 [.int (nI a)] mkX11_dies lkX11_374 (by decide) rfl rfl (by decide) rfl (Nat.le_of_ble_eq_true rfl) (Nat.le_of_ble_eq_true rfl) (Nat.le_of_ble_eq_true rfl) (Nat.le_of_ble_eq_true rfl) rfl rfl dX11_goes_121 rfl (c_X11_dies hRM hK hW hM hDI.2.1 q1 (fun I1 hM1 hF1 => ?_))
      refine Kq_v (k' := 0) (sl' := 0) rfl rfl ?_
      refine V_iconst 125 (1) rfl dX11_goes_124 rfl ?_
      refine V_ret_i rfl (by first | rfl | decide) (Nat.le_of_ble_eq_true rfl) (fun h => absurd h (by decide)) (Nat.le_of_ble_eq_true rfl) (h1 _ I1 (if_pos cD) hM1 (hF1 69 (by decide)) (FrXm.S hF1.S)) dX11_goes_125
    · refine V_iload_n 1 1 rfl rfl dX11_goes_0 rfl ?_
      refine V_if_ne 11 4 rfl dX11_goes_1 rfl (fun c1 => ?_) (fun c1 => absurd c1 (by decide))
      refine V_iload_n 12 1 rfl rfl dX11_goes_11 rfl ?_
      refine V_iconst 13 (2) rfl dX11_goes_12 rfl ?_
      refine V_icmp_ne 23 16 rfl dX11_goes_13 rfl (fun c13 => ?_) (fun c13 => absurd c13 (by decide))
      refine V_iload_n 24 1 rfl rfl dX11_goes_23 rfl ?_
      refine V_iconst 25 (3) rfl dX11_goes_24 rfl ?_
      refine V_icmp_ne 34 28 rfl dX11_goes_25 rfl (fun c25 => ?_) (fun c25 => absurd c25 (by decide))
      refine V_iload_n 35 1 rfl rfl dX11_goes_34 rfl ?_
      refine V_iconst 36 (1) rfl dX11_goes_35 rfl ?_
      refine V_icmp_ne 64 39 rfl dX11_goes_36 rfl (fun c36 => ?_) (fun c36 => absurd c36 (by decide))
      refine V_iload_n 65 1 rfl rfl dX11_goes_64 rfl ?_
      refine V_iconst 66 (4) rfl dX11_goes_65 rfl ?_
      refine V_icmp_ne 100 69 rfl dX11_goes_66 rfl (fun c66 => ?_) (fun c66 => absurd c66 (by decide))
      refine V_iload_n 101 1 rfl rfl dX11_goes_100 rfl ?_
      refine V_iconst 102 (5) rfl dX11_goes_101 rfl ?_
      refine V_icmp_ne 126 105 rfl dX11_goes_102 rfl (fun c102 => absurd c102 (by decide)) (fun c102 => ?_)
      refine V_aload_n 106 0 rfl _ rfl rfl dX11_goes_105 rfl ?_
      refine V_getR 109 69 11 41 89 (hRM 41) flX11_74 rfl rfl rfl (by decide) dX11_goes_106 rfl ?_
      refine V_bipush 111 (30) rfl dX11_goes_109 rfl ?_
      refine V_iload_n 112 2 rfl rfl dX11_goes_111 rfl ?_
      refine V_iadd 113 dX11_goes_112 rfl ?_
      refine V_rw (nI_add 30 a) ?_
      refine V_ialdN 114 89 51 (30 + a) (D (30 + a)) (hM (30 + a) (by omega)) (by omega) (by decide) rfl (by decide) dX11_goes_113 rfl ?_
      refine V_if_ne 119 117 rfl dX11_goes_114 rfl (fun c114 => absurd ((hFl a (by omega)).resolve_right cD) c114) (fun c114 => ?_)
      refine V_iconst 118 (0) rfl dX11_goes_117 rfl ?_
      refine V_ret_i rfl (by first | rfl | decide) (Nat.le_of_ble_eq_true rfl) (fun h => absurd h (by decide)) (Nat.le_of_ble_eq_true rfl) (h0 (if_neg cD)) dX11_goes_118
  · show V _ _ _ _ _ _ _ _ [(0, rf G 69), (1, .int 6), (2, .int (nI a)), (3, .int (nI b))] [] _ _ _ _ _
    obtain ⟨q, hq9, eq⟩ := hLX.2
    by_cases c9 : D 50 < 900
    · refine V_iload_n 1 1 rfl rfl dX11_goes_0 rfl ?_
      refine V_if_ne 11 4 rfl dX11_goes_1 rfl (fun c1 => ?_) (fun c1 => absurd c1 (by decide))
      refine V_iload_n 12 1 rfl rfl dX11_goes_11 rfl ?_
      refine V_iconst 13 (2) rfl dX11_goes_12 rfl ?_
      refine V_icmp_ne 23 16 rfl dX11_goes_13 rfl (fun c13 => ?_) (fun c13 => absurd c13 (by decide))
      refine V_iload_n 24 1 rfl rfl dX11_goes_23 rfl ?_
      refine V_iconst 25 (3) rfl dX11_goes_24 rfl ?_
      refine V_icmp_ne 34 28 rfl dX11_goes_25 rfl (fun c25 => ?_) (fun c25 => absurd c25 (by decide))
      refine V_iload_n 35 1 rfl rfl dX11_goes_34 rfl ?_
      refine V_iconst 36 (1) rfl dX11_goes_35 rfl ?_
      refine V_icmp_ne 64 39 rfl dX11_goes_36 rfl (fun c36 => ?_) (fun c36 => absurd c36 (by decide))
      refine V_iload_n 65 1 rfl rfl dX11_goes_64 rfl ?_
      refine V_iconst 66 (4) rfl dX11_goes_65 rfl ?_
      refine V_icmp_ne 100 69 rfl dX11_goes_66 rfl (fun c66 => ?_) (fun c66 => absurd c66 (by decide))
      refine V_iload_n 101 1 rfl rfl dX11_goes_100 rfl ?_
      refine V_iconst 102 (5) rfl dX11_goes_101 rfl ?_
      refine V_icmp_ne 126 105 rfl dX11_goes_102 rfl (fun c102 => ?_) (fun c102 => absurd c102 (by decide))
      refine V_aload_n 127 0 rfl _ rfl rfl dX11_goes_126 rfl ?_
      refine V_getR 130 69 11 41 89 (hRM 41) flX11_74 rfl rfl rfl (by decide) dX11_goes_127 rfl ?_
      refine V_bipush 132 (50) rfl dX11_goes_130 rfl ?_
      refine V_ialdN 133 89 51 50 (D 50) (hM 50 (by omega)) (by omega) (by decide) rfl (by decide) dX11_goes_132 rfl ?_
      refine V_sipush 136 (900) rfl dX11_goes_133 rfl ?_
      refine V_icmp_ne 141 139 rfl dX11_goes_136 rfl (fun c136 => ?_) (fun c136 => absurd c9 (by rw [c136]; decide))
      refine V_aload_n 142 0 rfl _ rfl rfl dX11_goes_141 rfl ?_
      refine V_callV (K' := 0) (S' := 0) 145 69 11 0 [] mkX11_passes lkX11_377 (by decide) rfl rfl (by decide) rfl (Nat.le_of_ble_eq_true rfl) (Nat.le_of_ble_eq_true rfl) (Nat.le_of_ble_eq_true rfl) (Nat.le_of_ble_eq_true rfl) rfl rfl dX11_goes_142 rfl (c_X11_passes hRM hK hW hM hDI.1 hBy hDI.2.1 hL (fun I1 hM1 hF1 => ?_))
      refine Kq_v (k' := 0) (sl' := 0) rfl rfl ?_
      rw [pass_eq hW hDI.2.2.2.1] at hM1
      refine V_iconst 146 (1) rfl dX11_goes_145 rfl ?_
      refine V_ret_i rfl (by first | rfl | decide) (Nat.le_of_ble_eq_true rfl) (fun h => absurd h (by decide)) (Nat.le_of_ble_eq_true rfl) (h1 _ I1 (if_pos c9) hM1 (hF1 69 (by decide) (by decide) (by decide) (by decide)) (FrXm.S hF1)) dX11_goes_146
    · refine V_iload_n 1 1 rfl rfl dX11_goes_0 rfl ?_
      refine V_if_ne 11 4 rfl dX11_goes_1 rfl (fun c1 => ?_) (fun c1 => absurd c1 (by decide))
      refine V_iload_n 12 1 rfl rfl dX11_goes_11 rfl ?_
      refine V_iconst 13 (2) rfl dX11_goes_12 rfl ?_
      refine V_icmp_ne 23 16 rfl dX11_goes_13 rfl (fun c13 => ?_) (fun c13 => absurd c13 (by decide))
      refine V_iload_n 24 1 rfl rfl dX11_goes_23 rfl ?_
      refine V_iconst 25 (3) rfl dX11_goes_24 rfl ?_
      refine V_icmp_ne 34 28 rfl dX11_goes_25 rfl (fun c25 => ?_) (fun c25 => absurd c25 (by decide))
      refine V_iload_n 35 1 rfl rfl dX11_goes_34 rfl ?_
      refine V_iconst 36 (1) rfl dX11_goes_35 rfl ?_
      refine V_icmp_ne 64 39 rfl dX11_goes_36 rfl (fun c36 => ?_) (fun c36 => absurd c36 (by decide))
      refine V_iload_n 65 1 rfl rfl dX11_goes_64 rfl ?_
      refine V_iconst 66 (4) rfl dX11_goes_65 rfl ?_
      refine V_icmp_ne 100 69 rfl dX11_goes_66 rfl (fun c66 => ?_) (fun c66 => absurd c66 (by decide))
      refine V_iload_n 101 1 rfl rfl dX11_goes_100 rfl ?_
      refine V_iconst 102 (5) rfl dX11_goes_101 rfl ?_
      refine V_icmp_ne 126 105 rfl dX11_goes_102 rfl (fun c102 => ?_) (fun c102 => absurd c102 (by decide))
      refine V_aload_n 127 0 rfl _ rfl rfl dX11_goes_126 rfl ?_
      refine V_getR 130 69 11 41 89 (hRM 41) flX11_74 rfl rfl rfl (by decide) dX11_goes_127 rfl ?_
      refine V_bipush 132 (50) rfl dX11_goes_130 rfl ?_
      refine V_ialdN 133 89 51 50 (D 50) (hM 50 (by omega)) (by omega) (by decide) rfl (by decide) dX11_goes_132 rfl ?_
      refine V_sipush 136 (900) rfl dX11_goes_133 rfl ?_
      refine V_icmp_ne 141 139 rfl dX11_goes_136 rfl (fun c136 => absurd (show D 50 = 900 from by rw [eq] at c9 ⊢; have := mt (nI_ltI (a := q) (b := 900) (by omega) (by omega)).mpr c9; rw [show q = 900 by omega]; rfl) c136) (fun c136 => ?_)
      refine V_iconst 140 (0) rfl dX11_goes_139 rfl ?_
      refine V_ret_i rfl (by first | rfl | decide) (Nat.le_of_ble_eq_true rfl) (fun h => absurd h (by decide)) (Nat.le_of_ble_eq_true rfl) (h0 (if_neg c9)) dX11_goes_140
def GMt (G : Gx) (D0 : Nat) (K : CO) (f : DV → Int32) (S : SR) (lev : Nat) (ex : Nat → Nat → ES → ES) : Prop := ∀ (d : Nat) (I : FI) (R : FR) (J : FJ) (Q : Po) (N i j : Nat) (e : ES) (xi xj : Int32), D0 ≤ d → xi = nI (3 * i) → xj = nI (3 * j) → MX I R K f N S e.1 → fR f → EI K e → AgC K S lev i j → i ≤ j → j ≤ N → I 69 37 = nI e.2.1 → I 69 38 = nI e.2.2.1 → I 69 39 = nI e.2.2.2 →
  (∀ I', DayM I' (ex i j e).1 → I' 69 37 = nI (ex i j e).2.1 → I' 69 38 = nI (ex i j e).2.2.1 → I' 69 39 = nI (ex i j e).2.2.2 → FrXm I I' → Q (.inl none) 103 I' R J) →
  Cc G mX11_goesSteps d 0 0 [rf G 69, .int xi, .int xj] 103 I R J Q
set_option maxHeartbeats 16000000 in
theorem c_X11_goesSteps0 {G : Gx} {D0 : Nat} {K : CO} {f : DV → Int32} {S : SR}  : GMt G (D0 + 20) K f S (0 + 1) (exL K f S (0)) := by
  intro d I R J Q N i j e xi xj hd exi exj hX hfR hEI hCh hij hjN h5 h6 h7 hq
  subst exi
  subst exj
  obtain ⟨m, rfl⟩ : ∃ m, d = m + 20 := ⟨d - 20, by omega⟩
  have hRM := hX.1
  have hN := hX.2.2.2.2.1
  have hW := hX.2.2.1
  have eX : exL K f S (0) i j e = exS K f S (fun _ _ e => e) 201 i j e := rfl
  obtain ⟨X, hXX⟩ : ∃ X, X = exL K f S (0) i j e := ⟨_, rfl⟩
  rw [← hXX] at hq eX
  have L : ∀ g i1 e1 I1, 200 - e1.2.1 < g → MX I1 R K f N S e1.1 → EI K e1 → Ch K S (0) i1 j → i1 ≤ j → I1 69 37 = nI e1.2.1 → I1 69 38 = nI e1.2.2.1 → I1 69 39 = nI e1.2.2.2 → FrXm I I1 → X = exS K f S (fun _ _ e => e) g i1 j e1 → V G mX11_goesSteps (m + 20) 0 0 0 0 2 [(3, .int (nI (3 * i1))), (0, rf G 69), (2, .int (nI (3 * j)))] [] 103 I1 R J Q := by
    intro g
    induction g with
    | zero => intro i1 e1 I1 hg; omega
    | succ g ih =>
      intro i1 e1 I1 hg hX1 hE1 hC1 hi1 h51 h61 h71 hF1 eq
      obtain ⟨D, bg, dn, rr⟩ := e1
      dsimp only at hg hX1 hE1 h51 h61 h71
      obtain ⟨hDI, hLX, hbg, hdr⟩ := hE1
      dsimp only at hDI hLX hbg hdr
      rw [exS] at eq
      dsimp only at eq
      have hD := hX1.2.2.2.2.2.2
      have hSt := hX1.2.2.2.2.2.1
      by_cases cc : i1 < j ∧ bg < 200
      · obtain ⟨s1, s2, s3⟩ := hC1.go cc.1
        obtain ⟨m1, m2, m3⟩ := hSt i1 (by omega)
        rw [if_pos cc] at eq
        obtain ⟨I2, eI2⟩ : ∃ I2, I2 = up2 I1 69 37 (nI (bg + 1)) := ⟨_, rfl⟩
        have hD2 : DayM I2 D := by rw [eI2]; exact DayM69 hD
        have hF2 : FrXm I1 I2 := by rw [eI2]; exact FrXm.rf.u (by decide)
        have hX2 := hX1.fr hF2 hD2
        have h52 : I2 69 37 = nI (bg + 1) := by rw [eI2, up2_s]; exact upd_s
        have h62 : I2 69 38 = nI dn := by rw [eI2, up69 (by decide)]; exact h61
        have h72 : I2 69 39 = nI rr := by rw [eI2, up69 (by decide)]; exact h71
        obtain ⟨n1, n2, n3⟩ := hX2.2.2.2.2.2.1 i1 (by omega)
        by_cases c7 : (S i1).1 = 7
        · rw [if_pos c7] at eq
          have hag : (S i1).2.1 ≤ 30 ∧ AgC K S (0) (i1 + 1) (S i1).2.2.2 := by
            rcases s1.2 with q | q
            · exact ⟨q.2.1, q.2.2⟩
            · have := q.1; omega
          have hlt := s1.1
          exact absurd hag.2 (fun q => q)
        · rw [if_neg c7] at eq
          have hok : (S i1).1 ≤ 6 ∧ (S i1).2.2.2 = i1 + 1 ∧ OpOk K (S i1).1 (S i1).2.1 (S i1).2.2.1 := by
            rcases s1.2 with q | q
            · exact absurd q.1 c7
            · exact q
          refine V_iload_n 3 0 rfl rfl dX11_goesSteps_2 rfl ?_
          refine V_iload_n 4 2 rfl rfl dX11_goesSteps_3 rfl ?_
          refine V_icmp_ge 153 7 rfl dX11_goesSteps_4 rfl (fun c4 => absurd c4 (nI_ge (show 3 * i1 < 3 * j by omega) (by omega))) (fun c4 => ?_)
          refine V_aload_n 8 1 rfl _ rfl rfl dX11_goesSteps_7 rfl ?_
          refine V_getI 11 69 11 37 (nI bg) h51 flX11_326 rfl rfl rfl (by decide) dX11_goesSteps_8 rfl ?_
          refine V_sipush 14 (200) rfl dX11_goesSteps_11 rfl ?_
          refine V_icmp_ge 153 17 rfl dX11_goesSteps_14 rfl (fun c14 => absurd c14 (nI_ge (b := 200) cc.2 (by decide))) (fun c14 => ?_)
          refine V_aload_n 18 1 rfl _ rfl rfl dX11_goesSteps_17 rfl ?_
          refine V_dup 19 rfl dX11_goesSteps_18 rfl ?_
          refine V_getI 22 69 11 37 (nI bg) h51 flX11_326 rfl rfl rfl (by decide) dX11_goesSteps_19 rfl ?_
          refine V_iconst 23 (1) rfl dX11_goesSteps_22 rfl ?_
          refine V_iadd 24 dX11_goesSteps_23 rfl ?_
          refine V_rw (nI_add bg 1) ?_
          refine V_putI 27 69 11 37 flX11_326 rfl rfl rfl (by decide) rfl dX11_goesSteps_24 rfl ?_
          rw [← eI2]
          refine V_aload_n 28 1 rfl _ rfl rfl dX11_goesSteps_27 rfl ?_
          refine V_getR 31 69 11 33 87 (hRM 33) flX11_68 rfl rfl rfl (by decide) dX11_goesSteps_28 rfl ?_
          refine V_iload_n 32 0 rfl rfl dX11_goesSteps_31 rfl ?_
          refine V_ialdN 33 87 150 (3 * i1) (nI (S i1).1) n1 (by omega) (by decide) rfl (by decide) dX11_goesSteps_32 rfl ?_
          refine V_bipush 35 (7) rfl dX11_goesSteps_33 rfl ?_
          refine V_icmp_ne 95 38 rfl dX11_goesSteps_35 rfl (fun c35 => ?_) (fun c35 => absurd ((nI_eq (b := 7) (by omega) (by decide)).mp c35) c7)
          refine V_aload_n 96 1 rfl _ rfl rfl dX11_goesSteps_95 rfl ?_
          refine V_aload_n 97 1 rfl _ rfl rfl dX11_goesSteps_96 rfl ?_
          refine V_getR 100 69 11 33 87 (hRM 33) flX11_68 rfl rfl rfl (by decide) dX11_goesSteps_97 rfl ?_
          refine V_iload_n 101 0 rfl rfl dX11_goesSteps_100 rfl ?_
          refine V_ialdN 102 87 150 (3 * i1) (nI (S i1).1) n1 (by omega) (by decide) rfl (by decide) dX11_goesSteps_101 rfl ?_
          refine V_aload_n 103 1 rfl _ rfl rfl dX11_goesSteps_102 rfl ?_
          refine V_getR 106 69 11 33 87 (hRM 33) flX11_68 rfl rfl rfl (by decide) dX11_goesSteps_103 rfl ?_
          refine V_iload_n 107 0 rfl rfl dX11_goesSteps_106 rfl ?_
          refine V_iconst 108 (1) rfl dX11_goesSteps_107 rfl ?_
          refine V_iadd 109 dX11_goesSteps_108 rfl ?_
          refine V_rw (nI_add (3 * i1) 1) ?_
          refine V_ialdN 110 87 150 ((3 * i1) + 1) (nI (S i1).2.1) n2 (by omega) (by decide) rfl (by decide) dX11_goesSteps_109 rfl ?_
          refine V_aload_n 111 1 rfl _ rfl rfl dX11_goesSteps_110 rfl ?_
          refine V_getR 114 69 11 33 87 (hRM 33) flX11_68 rfl rfl rfl (by decide) dX11_goesSteps_111 rfl ?_
          refine V_iload_n 115 0 rfl rfl dX11_goesSteps_114 rfl ?_
          refine V_iconst 116 (2) rfl dX11_goesSteps_115 rfl ?_
          refine V_iadd 117 dX11_goesSteps_116 rfl ?_
          refine V_rw (nI_add (3 * i1) 2) ?_
          refine V_ialdN 118 87 150 ((3 * i1) + 2) (nI (S i1).2.2.1) (n3.trans (if_neg c7)) (by omega) (by decide) rfl (by decide) dX11_goesSteps_117 rfl ?_
          refine V_callV (K' := 0) (S' := 0) 121 69 11 3 [.int (nI (S i1).1), .int (nI (S i1).2.1), .int (nI (S i1).2.2.1)] mkX11_goes lkX11_338 (by decide) rfl rfl (by decide) rfl (Nat.le_of_ble_eq_true rfl) (Nat.le_of_ble_eq_true rfl) (Nat.le_of_ble_eq_true rfl) (Nat.le_of_ble_eq_true rfl) rfl rfl dX11_goesSteps_118 rfl (c_X11_goes hX2 hDI hLX hok.1 hok.2.2 (fun D3 I3 eg hD3 h69 hF3 => ?_) (fun eg => ?_))
          · refine Kq_i (k' := 0) (sl' := 0) rfl rfl ?_
            rw [eg] at eq
            dsimp only at eq
            have hX3 := hX2.fr hF3 hD3
            obtain ⟨x1, x2⟩ := goF_ok hW hfR hok.1 hDI hLX hok.2.2 eg
            have h53 : I3 69 37 = nI (bg + 1) := by rw [h69]; exact h52
            have h63 : I3 69 38 = nI dn := by rw [h69]; exact h62
            have h73 : I3 69 39 = nI rr := by rw [h69]; exact h72
            refine V_if_eq 137 124 rfl dX11_goesSteps_121 rfl (fun c121 => absurd c121 (by decide)) (fun c121 => ?_)
            refine V_aload_n 125 1 rfl _ rfl rfl dX11_goesSteps_124 rfl ?_
            refine V_dup 126 rfl dX11_goesSteps_125 rfl ?_
            refine V_getI 129 69 11 38 (nI dn) h63 flX11_329 rfl rfl rfl (by decide) dX11_goesSteps_126 rfl ?_
            refine V_iconst 130 (1) rfl dX11_goesSteps_129 rfl ?_
            refine V_iadd 131 dX11_goesSteps_130 rfl ?_
            refine V_rw (nI_add dn 1) ?_
            refine V_putI 134 69 11 38 flX11_329 rfl rfl rfl (by decide) rfl dX11_goesSteps_131 rfl ?_
            refine V_goto 147 rfl dX11_goesSteps_134 ?_
            refine V_iinc 150 0 rfl (nI (3 * (S i1).2.2.2)) [(3, .int (nI (3 * (S i1).2.2.2))), (0, rf G 69), (2, .int (nI (3 * j)))] (by rw [hok.2.1]; exact nI_pl3) (by decide) rfl dX11_goesSteps_147 rfl ?_
            refine V_goto 2 rfl dX11_goesSteps_150 ?_
            exact V_lv [0, 1, 2] rfl (ih (S i1).2.2.2 (D3, bg + 1, dn + 1, rr) _ (by show 200 - (bg + 1) < g; omega) (hX3.fr (FrXm.rf.u (by decide)) (DayM69 hX3.2.2.2.2.2.2)) ⟨x1, x2, by show bg + 1 ≤ 200; omega, by show dn + 1 + rr ≤ bg + 1; omega⟩ s3 s2 (by rw [up69 (by decide)]; exact h53) (by rw [up2_s]; exact upd_s) (by rw [up69 (by decide)]; exact h73) (((hF1.tr hF2).tr hF3).tr (FrXm.rf.u (by decide))) eq)
          · refine Kq_i (k' := 0) (sl' := 0) rfl rfl ?_
            rw [eg] at eq
            dsimp only at eq
            refine V_if_eq 137 124 rfl dX11_goesSteps_121 rfl (fun c121 => ?_) (fun c121 => absurd c121 (by decide))
            refine V_aload_n 138 1 rfl _ rfl rfl dX11_goesSteps_137 rfl ?_
            refine V_dup 139 rfl dX11_goesSteps_138 rfl ?_
            refine V_getI 142 69 11 39 (nI rr) h72 flX11_332 rfl rfl rfl (by decide) dX11_goesSteps_139 rfl ?_
            refine V_iconst 143 (1) rfl dX11_goesSteps_142 rfl ?_
            refine V_iadd 144 dX11_goesSteps_143 rfl ?_
            refine V_rw (nI_add rr 1) ?_
            refine V_putI 147 69 11 39 flX11_332 rfl rfl rfl (by decide) rfl dX11_goesSteps_144 rfl ?_
            refine V_iinc 150 0 rfl (nI (3 * (S i1).2.2.2)) [(3, .int (nI (3 * (S i1).2.2.2))), (0, rf G 69), (2, .int (nI (3 * j)))] (by rw [hok.2.1]; exact nI_pl3) (by decide) rfl dX11_goesSteps_147 rfl ?_
            refine V_goto 2 rfl dX11_goesSteps_150 ?_
            exact V_lv [0, 1, 2] rfl (ih (S i1).2.2.2 (D, bg + 1, dn, rr + 1) _ (by show 200 - (bg + 1) < g; omega) (hX2.fr (FrXm.rf.u (by decide)) (DayM69 hD2)) ⟨hDI, hLX, by show bg + 1 ≤ 200; omega, by show dn + (rr + 1) ≤ bg + 1; omega⟩ s3 s2 (by rw [up69 (by decide)]; exact h52) (by rw [up69 (by decide)]; exact h62) (by rw [up2_s]; exact upd_s) ((hF1.tr hF2).tr (FrXm.rf.u (by decide))) eq)
      · rw [if_neg cc] at eq
        by_cases cj : i1 < j
        · refine V_iload_n 3 0 rfl rfl dX11_goesSteps_2 rfl ?_
          refine V_iload_n 4 2 rfl rfl dX11_goesSteps_3 rfl ?_
          refine V_icmp_ge 153 7 rfl dX11_goesSteps_4 rfl (fun c4 => absurd c4 (nI_ge (show 3 * i1 < 3 * j by omega) (by omega))) (fun c4 => ?_)
          refine V_aload_n 8 1 rfl _ rfl rfl dX11_goesSteps_7 rfl ?_
          refine V_getI 11 69 11 37 (nI bg) h51 flX11_326 rfl rfl rfl (by decide) dX11_goesSteps_8 rfl ?_
          refine V_sipush 14 (200) rfl dX11_goesSteps_11 rfl ?_
          refine V_icmp_ge 153 17 rfl dX11_goesSteps_14 rfl (fun c14 => ?_) (fun c14 => absurd (nI_le (a := 200) (by omega) (by omega)) c14)
          refine V_ret_v rfl (Nat.le_of_ble_eq_true rfl) (fun h => absurd h (by decide)) (Nat.le_of_ble_eq_true rfl) (by rw [eq] at hq; exact hq I1 hD h51 h61 h71 hF1) dX11_goesSteps_153
        · refine V_iload_n 3 0 rfl rfl dX11_goesSteps_2 rfl ?_
          refine V_iload_n 4 2 rfl rfl dX11_goesSteps_3 rfl ?_
          refine V_icmp_ge 153 7 rfl dX11_goesSteps_4 rfl (fun c4 => ?_) (fun c4 => absurd (nI_le (show 3 * j ≤ 3 * i1 by omega) (by omega)) c4)
          refine V_ret_v rfl (Nat.le_of_ble_eq_true rfl) (fun h => absurd h (by decide)) (Nat.le_of_ble_eq_true rfl) (by rw [eq] at hq; exact hq I1 hD h51 h61 h71 hF1) dX11_goesSteps_153
  show V _ _ _ _ _ _ _ _ [(0, rf G 69), (1, .int (nI (3 * i))), (2, .int (nI (3 * j)))] [] _ _ _ _ _
  refine V_iload_n 1 1 rfl rfl dX11_goesSteps_0 rfl ?_
  refine V_istore_n 2 [(3, .int (nI (3 * i))), (0, rf G 69), (1, .int (nI (3 * i))), (2, .int (nI (3 * j)))] (by decide) rfl rfl dX11_goesSteps_1 rfl ?_
  exact V_lv [0, 1, 3] rfl (L 201 i e I (by omega) hX hEI hCh hij h5 h6 h7 FrXm.rf eX)
set_option maxHeartbeats 16000000 in
theorem c_X11_goesStepsS {G : Gx} {D0 : Nat} {K : CO} {f : DV → Int32} {S : SR} {lev : Nat} (hU : GMt G D0 K f S (lev + 1) (exL K f S lev)) : GMt G (D0 + 20) K f S (lev + 1 + 1) (exL K f S (lev + 1)) := by
  intro d I R J Q N i j e xi xj hd exi exj hX hfR hEI hCh hij hjN h5 h6 h7 hq
  subst exi
  subst exj
  obtain ⟨m, rfl⟩ : ∃ m, d = m + 20 := ⟨d - 20, by omega⟩
  have hRM := hX.1
  have hN := hX.2.2.2.2.1
  have hW := hX.2.2.1
  have eX : exL K f S (lev + 1) i j e = exS K f S (exL K f S lev) 201 i j e := rfl
  obtain ⟨X, hXX⟩ : ∃ X, X = exL K f S (lev + 1) i j e := ⟨_, rfl⟩
  rw [← hXX] at hq eX
  have L : ∀ g i1 e1 I1, 200 - e1.2.1 < g → MX I1 R K f N S e1.1 → EI K e1 → Ch K S (lev + 1) i1 j → i1 ≤ j → I1 69 37 = nI e1.2.1 → I1 69 38 = nI e1.2.2.1 → I1 69 39 = nI e1.2.2.2 → FrXm I I1 → X = exS K f S (exL K f S lev) g i1 j e1 → V G mX11_goesSteps (m + 20) 0 0 0 0 2 [(3, .int (nI (3 * i1))), (0, rf G 69), (2, .int (nI (3 * j)))] [] 103 I1 R J Q := by
    intro g
    induction g with
    | zero => intro i1 e1 I1 hg; omega
    | succ g ih =>
      intro i1 e1 I1 hg hX1 hE1 hC1 hi1 h51 h61 h71 hF1 eq
      obtain ⟨D, bg, dn, rr⟩ := e1
      dsimp only at hg hX1 hE1 h51 h61 h71
      obtain ⟨hDI, hLX, hbg, hdr⟩ := hE1
      dsimp only at hDI hLX hbg hdr
      rw [exS] at eq
      dsimp only at eq
      have hD := hX1.2.2.2.2.2.2
      have hSt := hX1.2.2.2.2.2.1
      by_cases cc : i1 < j ∧ bg < 200
      · obtain ⟨s1, s2, s3⟩ := hC1.go cc.1
        obtain ⟨m1, m2, m3⟩ := hSt i1 (by omega)
        rw [if_pos cc] at eq
        obtain ⟨I2, eI2⟩ : ∃ I2, I2 = up2 I1 69 37 (nI (bg + 1)) := ⟨_, rfl⟩
        have hD2 : DayM I2 D := by rw [eI2]; exact DayM69 hD
        have hF2 : FrXm I1 I2 := by rw [eI2]; exact FrXm.rf.u (by decide)
        have hX2 := hX1.fr hF2 hD2
        have h52 : I2 69 37 = nI (bg + 1) := by rw [eI2, up2_s]; exact upd_s
        have h62 : I2 69 38 = nI dn := by rw [eI2, up69 (by decide)]; exact h61
        have h72 : I2 69 39 = nI rr := by rw [eI2, up69 (by decide)]; exact h71
        obtain ⟨n1, n2, n3⟩ := hX2.2.2.2.2.2.1 i1 (by omega)
        by_cases c7 : (S i1).1 = 7
        · rw [if_pos c7] at eq
          have hag : (S i1).2.1 ≤ 30 ∧ AgC K S (lev + 1) (i1 + 1) (S i1).2.2.2 := by
            rcases s1.2 with q | q
            · exact ⟨q.2.1, q.2.2⟩
            · have := q.1; omega
          have hlt := s1.1
          have M : ∀ r e4 I4, r ≤ (S i1).2.1 → MX I4 R K f N S e4.1 → EI K e4 → bg + 1 ≤ e4.2.1 → I4 69 37 = nI e4.2.1 → I4 69 38 = nI e4.2.2.1 → I4 69 39 = nI e4.2.2.2 → FrXm I I4 → X = exS K f S (exL K f S lev) g (S i1).2.2.2 j (rpS ((exL K f S lev) (i1 + 1) (S i1).2.2.2) ((S i1).2.1 - r) e4) → V G mX11_goesSteps (m + 20) 0 0 0 0 51 [(5, .int (nI r)), (4, .int (nI (3 * (S i1).2.2.2))), (3, .int (nI (3 * i1))), (0, rf G 69), (2, .int (nI (3 * j)))] [] 103 I4 R J Q := by
            intro r
            obtain ⟨w, hw⟩ : ∃ w, w = (S i1).2.1 - r := ⟨_, rfl⟩
            induction w generalizing r with
            | zero =>
              intro e4 I4 hr hX4 hE4 hb4 h54 h64 h74 hF4 eq4
              rw [← hw, rpS] at eq4
              obtain ⟨k1, k2, k3⟩ := hX4.2.2.2.2.2.1 i1 (by omega)
              refine V_iload 53 0 rfl dX11_goesSteps_51 rfl ?_
              refine V_aload_n 54 3 rfl _ rfl rfl dX11_goesSteps_53 rfl ?_
              refine V_getR 57 69 11 33 87 (hRM 33) flX11_68 rfl rfl rfl (by decide) dX11_goesSteps_54 rfl ?_
              refine V_iload_n 58 2 rfl rfl dX11_goesSteps_57 rfl ?_
              refine V_iconst 59 (1) rfl dX11_goesSteps_58 rfl ?_
              refine V_iadd 60 dX11_goesSteps_59 rfl ?_
              refine V_rw (nI_add (3 * i1) 1) ?_
              refine V_ialdN 61 87 150 ((3 * i1) + 1) (nI (S i1).2.1) k2 (by omega) (by decide) rfl (by decide) dX11_goesSteps_60 rfl ?_
              refine V_icmp_ge 89 64 rfl dX11_goesSteps_61 rfl (fun c61 => ?_) (fun c61 => absurd (nI_le (show (S i1).2.1 ≤ r by omega) (by omega)) c61)
              refine V_iload 91 1 rfl dX11_goesSteps_89 rfl ?_
              refine V_istore_n 92 [(3, .int (nI (3 * (S i1).2.2.2))), (5, .int (nI r)), (4, .int (nI (3 * (S i1).2.2.2))), (0, rf G 69), (2, .int (nI (3 * j)))] (by decide) rfl rfl dX11_goesSteps_91 rfl ?_
              refine V_goto 2 rfl dX11_goesSteps_92 ?_
              exact V_lv [0, 3, 4] rfl (ih _ e4 I4 (by omega) hX4 hE4 s3 s2 h54 h64 h74 hF4 eq4)
            | succ w ihw =>
              intro e4 I4 hr hX4 hE4 hb4 h54 h64 h74 hF4 eq4
              rw [← hw, rpS] at eq4
              obtain ⟨k1, k2, k3⟩ := hX4.2.2.2.2.2.1 i1 (by omega)
              have hb5 := hE4.2.2.1
              by_cases c2 : e4.2.1 < 200
              · refine V_iload 53 0 rfl dX11_goesSteps_51 rfl ?_
                refine V_aload_n 54 3 rfl _ rfl rfl dX11_goesSteps_53 rfl ?_
                refine V_getR 57 69 11 33 87 (hRM 33) flX11_68 rfl rfl rfl (by decide) dX11_goesSteps_54 rfl ?_
                refine V_iload_n 58 2 rfl rfl dX11_goesSteps_57 rfl ?_
                refine V_iconst 59 (1) rfl dX11_goesSteps_58 rfl ?_
                refine V_iadd 60 dX11_goesSteps_59 rfl ?_
                refine V_rw (nI_add (3 * i1) 1) ?_
                refine V_ialdN 61 87 150 ((3 * i1) + 1) (nI (S i1).2.1) k2 (by omega) (by decide) rfl (by decide) dX11_goesSteps_60 rfl ?_
                refine V_icmp_ge 89 64 rfl dX11_goesSteps_61 rfl (fun c61 => absurd c61 (nI_ge (show r < (S i1).2.1 by omega) (by omega))) (fun c61 => ?_)
                refine V_aload_n 65 3 rfl _ rfl rfl dX11_goesSteps_64 rfl ?_
                refine V_getI 68 69 11 37 (nI e4.2.1) h54 flX11_326 rfl rfl rfl (by decide) dX11_goesSteps_65 rfl ?_
                refine V_sipush 71 (200) rfl dX11_goesSteps_68 rfl ?_
                refine V_icmp_ge 89 74 rfl dX11_goesSteps_71 rfl (fun c71 => absurd c71 (nI_ge (b := 200) c2 (by decide))) (fun c71 => ?_)
                refine V_aload_n 75 3 rfl _ rfl rfl dX11_goesSteps_74 rfl ?_
                refine V_iload_n 76 2 rfl rfl dX11_goesSteps_75 rfl ?_
                refine V_iconst 77 (3) rfl dX11_goesSteps_76 rfl ?_
                refine V_iadd 78 dX11_goesSteps_77 rfl ?_
                refine V_rw (nI_add (3 * i1) 3) ?_
                refine V_iload 80 1 rfl dX11_goesSteps_78 rfl ?_
                refine V_callV (K' := 0) (S' := 0) 83 69 11 2 [.int (nI ((3 * i1) + 3)), .int (nI (3 * (S i1).2.2.2))] mkX11_goesSteps lkX11_335 (by decide) rfl rfl (by decide) rfl (Nat.le_of_ble_eq_true rfl) (Nat.le_of_ble_eq_true rfl) (Nat.le_of_ble_eq_true rfl) (Nat.le_of_ble_eq_true rfl) rfl rfl dX11_goesSteps_80 rfl (hU _ _ _ _ _ N (i1 + 1) (S i1).2.2.2 e4 _ _ (by omega) (show _ = nI (3 * (i1 + 1)) from by congr 1) rfl hX4 hfR hE4 hag.2 (by omega) (by omega) h54 h64 h74 (fun I5 hD5 h55 h65 h75 hF5 => ?_))
                refine Kq_v (k' := 0) (sl' := 0) rfl rfl ?_
                have hO5 := exL_ok hW hfR lev (i1 + 1) (S i1).2.2.2 e4 hag.2 hE4
                have hX5 := hX4.fr hF5 hD5
                refine V_iinc 86 0 rfl (nI (r + 1)) [(5, .int (nI (r + 1))), (4, .int (nI (3 * (S i1).2.2.2))), (3, .int (nI (3 * i1))), (0, rf G 69), (2, .int (nI (3 * j)))] (nI_1 _) (by decide) rfl dX11_goesSteps_83 rfl ?_
                refine V_goto 51 rfl dX11_goesSteps_86 ?_
                exact V_lv [0, 1, 2, 3, 4] rfl (ihw (r + 1) (by omega) _ I5 (by omega) hX5 hO5.1 (Nat.le_trans hb4 hO5.2) h55 h65 h75 (hF4.tr hF5) (by rw [if_pos c2] at eq4; rw [show (S i1).2.1 - (r + 1) = w by omega]; exact eq4))
              · rw [if_neg c2] at eq4
                refine V_iload 53 0 rfl dX11_goesSteps_51 rfl ?_
                refine V_aload_n 54 3 rfl _ rfl rfl dX11_goesSteps_53 rfl ?_
                refine V_getR 57 69 11 33 87 (hRM 33) flX11_68 rfl rfl rfl (by decide) dX11_goesSteps_54 rfl ?_
                refine V_iload_n 58 2 rfl rfl dX11_goesSteps_57 rfl ?_
                refine V_iconst 59 (1) rfl dX11_goesSteps_58 rfl ?_
                refine V_iadd 60 dX11_goesSteps_59 rfl ?_
                refine V_rw (nI_add (3 * i1) 1) ?_
                refine V_ialdN 61 87 150 ((3 * i1) + 1) (nI (S i1).2.1) k2 (by omega) (by decide) rfl (by decide) dX11_goesSteps_60 rfl ?_
                refine V_icmp_ge 89 64 rfl dX11_goesSteps_61 rfl (fun c61 => absurd c61 (nI_ge (show r < (S i1).2.1 by omega) (by omega))) (fun c61 => ?_)
                refine V_aload_n 65 3 rfl _ rfl rfl dX11_goesSteps_64 rfl ?_
                refine V_getI 68 69 11 37 (nI e4.2.1) h54 flX11_326 rfl rfl rfl (by decide) dX11_goesSteps_65 rfl ?_
                refine V_sipush 71 (200) rfl dX11_goesSteps_68 rfl ?_
                refine V_icmp_ge 89 74 rfl dX11_goesSteps_71 rfl (fun c71 => ?_) (fun c71 => absurd (nI_le (a := 200) (by omega) (by omega)) c71)
                refine V_iload 91 1 rfl dX11_goesSteps_89 rfl ?_
                refine V_istore_n 92 [(3, .int (nI (3 * (S i1).2.2.2))), (5, .int (nI r)), (4, .int (nI (3 * (S i1).2.2.2))), (0, rf G 69), (2, .int (nI (3 * j)))] (by decide) rfl rfl dX11_goesSteps_91 rfl ?_
                refine V_goto 2 rfl dX11_goesSteps_92 ?_
                exact V_lv [0, 3, 4] rfl (ih _ e4 I4 (by omega) hX4 hE4 s3 s2 h54 h64 h74 hF4 eq4)
          refine V_iload_n 3 0 rfl rfl dX11_goesSteps_2 rfl ?_
          refine V_iload_n 4 2 rfl rfl dX11_goesSteps_3 rfl ?_
          refine V_icmp_ge 153 7 rfl dX11_goesSteps_4 rfl (fun c4 => absurd c4 (nI_ge (show 3 * i1 < 3 * j by omega) (by omega))) (fun c4 => ?_)
          refine V_aload_n 8 1 rfl _ rfl rfl dX11_goesSteps_7 rfl ?_
          refine V_getI 11 69 11 37 (nI bg) h51 flX11_326 rfl rfl rfl (by decide) dX11_goesSteps_8 rfl ?_
          refine V_sipush 14 (200) rfl dX11_goesSteps_11 rfl ?_
          refine V_icmp_ge 153 17 rfl dX11_goesSteps_14 rfl (fun c14 => absurd c14 (nI_ge (b := 200) cc.2 (by decide))) (fun c14 => ?_)
          refine V_aload_n 18 1 rfl _ rfl rfl dX11_goesSteps_17 rfl ?_
          refine V_dup 19 rfl dX11_goesSteps_18 rfl ?_
          refine V_getI 22 69 11 37 (nI bg) h51 flX11_326 rfl rfl rfl (by decide) dX11_goesSteps_19 rfl ?_
          refine V_iconst 23 (1) rfl dX11_goesSteps_22 rfl ?_
          refine V_iadd 24 dX11_goesSteps_23 rfl ?_
          refine V_rw (nI_add bg 1) ?_
          refine V_putI 27 69 11 37 flX11_326 rfl rfl rfl (by decide) rfl dX11_goesSteps_24 rfl ?_
          rw [← eI2]
          refine V_aload_n 28 1 rfl _ rfl rfl dX11_goesSteps_27 rfl ?_
          refine V_getR 31 69 11 33 87 (hRM 33) flX11_68 rfl rfl rfl (by decide) dX11_goesSteps_28 rfl ?_
          refine V_iload_n 32 0 rfl rfl dX11_goesSteps_31 rfl ?_
          refine V_ialdN 33 87 150 (3 * i1) 7 (by rw [n1, c7]; rfl) (by omega) (by decide) rfl (by decide) dX11_goesSteps_32 rfl ?_
          refine V_bipush 35 (7) rfl dX11_goesSteps_33 rfl ?_
          refine V_icmp_ne 95 38 rfl dX11_goesSteps_35 rfl (fun c35 => absurd c35 (by decide)) (fun c35 => ?_)
          refine V_aload_n 39 1 rfl _ rfl rfl dX11_goesSteps_38 rfl ?_
          refine V_getR 42 69 11 33 87 (hRM 33) flX11_68 rfl rfl rfl (by decide) dX11_goesSteps_39 rfl ?_
          refine V_iload_n 43 0 rfl rfl dX11_goesSteps_42 rfl ?_
          refine V_iconst 44 (2) rfl dX11_goesSteps_43 rfl ?_
          refine V_iadd 45 dX11_goesSteps_44 rfl ?_
          refine V_rw (nI_add (3 * i1) 2) ?_
          refine V_ialdN 46 87 150 ((3 * i1) + 2) (nI (3 * (S i1).2.2.2)) (n3.trans (if_pos c7)) (by omega) (by decide) rfl (by decide) dX11_goesSteps_45 rfl ?_
          refine V_istore 48 [(4, .int (nI (3 * (S i1).2.2.2))), (3, .int (nI (3 * i1))), (0, rf G 69), (2, .int (nI (3 * j)))] (by decide) rfl dX11_goesSteps_46 rfl ?_
          refine V_iconst 49 (0) rfl dX11_goesSteps_48 rfl ?_
          refine V_istore 51 [(5, .int 0), (4, .int (nI (3 * (S i1).2.2.2))), (3, .int (nI (3 * i1))), (0, rf G 69), (2, .int (nI (3 * j)))] (by decide) rfl dX11_goesSteps_49 rfl ?_
          exact V_lv [0, 1, 2, 3, 4] rfl (M 0 (D, bg + 1, dn, rr) I2 (Nat.zero_le _) hX2 ⟨hDI, hLX, by show bg + 1 ≤ 200; omega, by show dn + rr ≤ bg + 1; omega⟩ (Nat.le_refl _) h52 h62 h72 (hF1.tr hF2) eq)
        · rw [if_neg c7] at eq
          have hok : (S i1).1 ≤ 6 ∧ (S i1).2.2.2 = i1 + 1 ∧ OpOk K (S i1).1 (S i1).2.1 (S i1).2.2.1 := by
            rcases s1.2 with q | q
            · exact absurd q.1 c7
            · exact q
          refine V_iload_n 3 0 rfl rfl dX11_goesSteps_2 rfl ?_
          refine V_iload_n 4 2 rfl rfl dX11_goesSteps_3 rfl ?_
          refine V_icmp_ge 153 7 rfl dX11_goesSteps_4 rfl (fun c4 => absurd c4 (nI_ge (show 3 * i1 < 3 * j by omega) (by omega))) (fun c4 => ?_)
          refine V_aload_n 8 1 rfl _ rfl rfl dX11_goesSteps_7 rfl ?_
          refine V_getI 11 69 11 37 (nI bg) h51 flX11_326 rfl rfl rfl (by decide) dX11_goesSteps_8 rfl ?_
          refine V_sipush 14 (200) rfl dX11_goesSteps_11 rfl ?_
          refine V_icmp_ge 153 17 rfl dX11_goesSteps_14 rfl (fun c14 => absurd c14 (nI_ge (b := 200) cc.2 (by decide))) (fun c14 => ?_)
          refine V_aload_n 18 1 rfl _ rfl rfl dX11_goesSteps_17 rfl ?_
          refine V_dup 19 rfl dX11_goesSteps_18 rfl ?_
          refine V_getI 22 69 11 37 (nI bg) h51 flX11_326 rfl rfl rfl (by decide) dX11_goesSteps_19 rfl ?_
          refine V_iconst 23 (1) rfl dX11_goesSteps_22 rfl ?_
          refine V_iadd 24 dX11_goesSteps_23 rfl ?_
          refine V_rw (nI_add bg 1) ?_
          refine V_putI 27 69 11 37 flX11_326 rfl rfl rfl (by decide) rfl dX11_goesSteps_24 rfl ?_
          rw [← eI2]
          refine V_aload_n 28 1 rfl _ rfl rfl dX11_goesSteps_27 rfl ?_
          refine V_getR 31 69 11 33 87 (hRM 33) flX11_68 rfl rfl rfl (by decide) dX11_goesSteps_28 rfl ?_
          refine V_iload_n 32 0 rfl rfl dX11_goesSteps_31 rfl ?_
          refine V_ialdN 33 87 150 (3 * i1) (nI (S i1).1) n1 (by omega) (by decide) rfl (by decide) dX11_goesSteps_32 rfl ?_
          refine V_bipush 35 (7) rfl dX11_goesSteps_33 rfl ?_
          refine V_icmp_ne 95 38 rfl dX11_goesSteps_35 rfl (fun c35 => ?_) (fun c35 => absurd ((nI_eq (b := 7) (by omega) (by decide)).mp c35) c7)
          refine V_aload_n 96 1 rfl _ rfl rfl dX11_goesSteps_95 rfl ?_
          refine V_aload_n 97 1 rfl _ rfl rfl dX11_goesSteps_96 rfl ?_
          refine V_getR 100 69 11 33 87 (hRM 33) flX11_68 rfl rfl rfl (by decide) dX11_goesSteps_97 rfl ?_
          refine V_iload_n 101 0 rfl rfl dX11_goesSteps_100 rfl ?_
          refine V_ialdN 102 87 150 (3 * i1) (nI (S i1).1) n1 (by omega) (by decide) rfl (by decide) dX11_goesSteps_101 rfl ?_
          refine V_aload_n 103 1 rfl _ rfl rfl dX11_goesSteps_102 rfl ?_
          refine V_getR 106 69 11 33 87 (hRM 33) flX11_68 rfl rfl rfl (by decide) dX11_goesSteps_103 rfl ?_
          refine V_iload_n 107 0 rfl rfl dX11_goesSteps_106 rfl ?_
          refine V_iconst 108 (1) rfl dX11_goesSteps_107 rfl ?_
          refine V_iadd 109 dX11_goesSteps_108 rfl ?_
          refine V_rw (nI_add (3 * i1) 1) ?_
          refine V_ialdN 110 87 150 ((3 * i1) + 1) (nI (S i1).2.1) n2 (by omega) (by decide) rfl (by decide) dX11_goesSteps_109 rfl ?_
          refine V_aload_n 111 1 rfl _ rfl rfl dX11_goesSteps_110 rfl ?_
          refine V_getR 114 69 11 33 87 (hRM 33) flX11_68 rfl rfl rfl (by decide) dX11_goesSteps_111 rfl ?_
          refine V_iload_n 115 0 rfl rfl dX11_goesSteps_114 rfl ?_
          refine V_iconst 116 (2) rfl dX11_goesSteps_115 rfl ?_
          refine V_iadd 117 dX11_goesSteps_116 rfl ?_
          refine V_rw (nI_add (3 * i1) 2) ?_
          refine V_ialdN 118 87 150 ((3 * i1) + 2) (nI (S i1).2.2.1) (n3.trans (if_neg c7)) (by omega) (by decide) rfl (by decide) dX11_goesSteps_117 rfl ?_
          refine V_callV (K' := 0) (S' := 0) 121 69 11 3 [.int (nI (S i1).1), .int (nI (S i1).2.1), .int (nI (S i1).2.2.1)] mkX11_goes lkX11_338 (by decide) rfl rfl (by decide) rfl (Nat.le_of_ble_eq_true rfl) (Nat.le_of_ble_eq_true rfl) (Nat.le_of_ble_eq_true rfl) (Nat.le_of_ble_eq_true rfl) rfl rfl dX11_goesSteps_118 rfl (c_X11_goes hX2 hDI hLX hok.1 hok.2.2 (fun D3 I3 eg hD3 h69 hF3 => ?_) (fun eg => ?_))
          · refine Kq_i (k' := 0) (sl' := 0) rfl rfl ?_
            rw [eg] at eq
            dsimp only at eq
            have hX3 := hX2.fr hF3 hD3
            obtain ⟨x1, x2⟩ := goF_ok hW hfR hok.1 hDI hLX hok.2.2 eg
            have h53 : I3 69 37 = nI (bg + 1) := by rw [h69]; exact h52
            have h63 : I3 69 38 = nI dn := by rw [h69]; exact h62
            have h73 : I3 69 39 = nI rr := by rw [h69]; exact h72
            refine V_if_eq 137 124 rfl dX11_goesSteps_121 rfl (fun c121 => absurd c121 (by decide)) (fun c121 => ?_)
            refine V_aload_n 125 1 rfl _ rfl rfl dX11_goesSteps_124 rfl ?_
            refine V_dup 126 rfl dX11_goesSteps_125 rfl ?_
            refine V_getI 129 69 11 38 (nI dn) h63 flX11_329 rfl rfl rfl (by decide) dX11_goesSteps_126 rfl ?_
            refine V_iconst 130 (1) rfl dX11_goesSteps_129 rfl ?_
            refine V_iadd 131 dX11_goesSteps_130 rfl ?_
            refine V_rw (nI_add dn 1) ?_
            refine V_putI 134 69 11 38 flX11_329 rfl rfl rfl (by decide) rfl dX11_goesSteps_131 rfl ?_
            refine V_goto 147 rfl dX11_goesSteps_134 ?_
            refine V_iinc 150 0 rfl (nI (3 * (S i1).2.2.2)) [(3, .int (nI (3 * (S i1).2.2.2))), (0, rf G 69), (2, .int (nI (3 * j)))] (by rw [hok.2.1]; exact nI_pl3) (by decide) rfl dX11_goesSteps_147 rfl ?_
            refine V_goto 2 rfl dX11_goesSteps_150 ?_
            exact V_lv [0, 1, 2] rfl (ih (S i1).2.2.2 (D3, bg + 1, dn + 1, rr) _ (by show 200 - (bg + 1) < g; omega) (hX3.fr (FrXm.rf.u (by decide)) (DayM69 hX3.2.2.2.2.2.2)) ⟨x1, x2, by show bg + 1 ≤ 200; omega, by show dn + 1 + rr ≤ bg + 1; omega⟩ s3 s2 (by rw [up69 (by decide)]; exact h53) (by rw [up2_s]; exact upd_s) (by rw [up69 (by decide)]; exact h73) (((hF1.tr hF2).tr hF3).tr (FrXm.rf.u (by decide))) eq)
          · refine Kq_i (k' := 0) (sl' := 0) rfl rfl ?_
            rw [eg] at eq
            dsimp only at eq
            refine V_if_eq 137 124 rfl dX11_goesSteps_121 rfl (fun c121 => ?_) (fun c121 => absurd c121 (by decide))
            refine V_aload_n 138 1 rfl _ rfl rfl dX11_goesSteps_137 rfl ?_
            refine V_dup 139 rfl dX11_goesSteps_138 rfl ?_
            refine V_getI 142 69 11 39 (nI rr) h72 flX11_332 rfl rfl rfl (by decide) dX11_goesSteps_139 rfl ?_
            refine V_iconst 143 (1) rfl dX11_goesSteps_142 rfl ?_
            refine V_iadd 144 dX11_goesSteps_143 rfl ?_
            refine V_rw (nI_add rr 1) ?_
            refine V_putI 147 69 11 39 flX11_332 rfl rfl rfl (by decide) rfl dX11_goesSteps_144 rfl ?_
            refine V_iinc 150 0 rfl (nI (3 * (S i1).2.2.2)) [(3, .int (nI (3 * (S i1).2.2.2))), (0, rf G 69), (2, .int (nI (3 * j)))] (by rw [hok.2.1]; exact nI_pl3) (by decide) rfl dX11_goesSteps_147 rfl ?_
            refine V_goto 2 rfl dX11_goesSteps_150 ?_
            exact V_lv [0, 1, 2] rfl (ih (S i1).2.2.2 (D, bg + 1, dn, rr + 1) _ (by show 200 - (bg + 1) < g; omega) (hX2.fr (FrXm.rf.u (by decide)) (DayM69 hD2)) ⟨hDI, hLX, by show bg + 1 ≤ 200; omega, by show dn + (rr + 1) ≤ bg + 1; omega⟩ s3 s2 (by rw [up69 (by decide)]; exact h52) (by rw [up69 (by decide)]; exact h62) (by rw [up2_s]; exact upd_s) ((hF1.tr hF2).tr (FrXm.rf.u (by decide))) eq)
      · rw [if_neg cc] at eq
        by_cases cj : i1 < j
        · refine V_iload_n 3 0 rfl rfl dX11_goesSteps_2 rfl ?_
          refine V_iload_n 4 2 rfl rfl dX11_goesSteps_3 rfl ?_
          refine V_icmp_ge 153 7 rfl dX11_goesSteps_4 rfl (fun c4 => absurd c4 (nI_ge (show 3 * i1 < 3 * j by omega) (by omega))) (fun c4 => ?_)
          refine V_aload_n 8 1 rfl _ rfl rfl dX11_goesSteps_7 rfl ?_
          refine V_getI 11 69 11 37 (nI bg) h51 flX11_326 rfl rfl rfl (by decide) dX11_goesSteps_8 rfl ?_
          refine V_sipush 14 (200) rfl dX11_goesSteps_11 rfl ?_
          refine V_icmp_ge 153 17 rfl dX11_goesSteps_14 rfl (fun c14 => ?_) (fun c14 => absurd (nI_le (a := 200) (by omega) (by omega)) c14)
          refine V_ret_v rfl (Nat.le_of_ble_eq_true rfl) (fun h => absurd h (by decide)) (Nat.le_of_ble_eq_true rfl) (by rw [eq] at hq; exact hq I1 hD h51 h61 h71 hF1) dX11_goesSteps_153
        · refine V_iload_n 3 0 rfl rfl dX11_goesSteps_2 rfl ?_
          refine V_iload_n 4 2 rfl rfl dX11_goesSteps_3 rfl ?_
          refine V_icmp_ge 153 7 rfl dX11_goesSteps_4 rfl (fun c4 => ?_) (fun c4 => absurd (nI_le (show 3 * j ≤ 3 * i1 by omega) (by omega)) c4)
          refine V_ret_v rfl (Nat.le_of_ble_eq_true rfl) (fun h => absurd h (by decide)) (Nat.le_of_ble_eq_true rfl) (by rw [eq] at hq; exact hq I1 hD h51 h61 h71 hF1) dX11_goesSteps_153
  show V _ _ _ _ _ _ _ _ [(0, rf G 69), (1, .int (nI (3 * i))), (2, .int (nI (3 * j)))] [] _ _ _ _ _
  refine V_iload_n 1 1 rfl rfl dX11_goesSteps_0 rfl ?_
  refine V_istore_n 2 [(3, .int (nI (3 * i))), (0, rf G 69), (1, .int (nI (3 * i))), (2, .int (nI (3 * j)))] (by decide) rfl rfl dX11_goesSteps_1 rfl ?_
  exact V_lv [0, 1, 3] rfl (L 201 i e I (by omega) hX hEI hCh hij h5 h6 h7 FrXm.rf eX)
theorem c_X11_run {G : Gx} {K : CO} {f : DV → Int32} {S : SR} : ∀ lev, GMt G (20 * lev + 20) K f S (lev + 1) (exL K f S lev) := by
  intro lev
  induction lev with
  | zero => exact c_X11_goesSteps0 (D0 := 0)
  | succ lev ih => exact c_X11_goesStepsS (D0 := 20 * lev + 20) ih
