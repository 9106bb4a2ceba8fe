/-! ===== the reference: told, hat, ground, man, sea, would ===== -/
set_option maxHeartbeats 8000000 in
theorem c_X11_told {G : Gx} {d : Nat} {I : FI} {R : FR} {J : FJ} {Q : Po} {K : CO} {f : DV → Int32} {D : DV} (hX : RM I R K f D) {x : Int32} {nb rs : Int32} (hnb : I 69 46 = nb) (hrs : I 69 36 = rs) (hq : HoM I R J Q 1 (ckW x 0 10 (.inl (toldF K D nb rs x.toNatClampNeg)))) : Cc G mX11_told (d + 60) 0 0 [rf G 69, .int x] 103 I R J Q := by
  obtain ⟨I0, hI0⟩ : ∃ I0, I0 = up2 I 69 0 0 := ⟨_, rfl⟩
  have hz := FrM.z hI0
  obtain ⟨hRM, hK, hW, hN, hI, hL, hfR⟩ := hX.fr hz
  have ht : I0 69 0 = 0 := hz.2.1
  have h8 := hW.1
  have hg6 := hW.2.1
  have h6 := hW.2.2.1
  have hWD := hI.1
  have hFl := hI.1.1
  have hB := hI.2.2.1
  have hSt := hI.2.1
  show V _ _ _ _ _ _ _ _ [(0, rf G 69), (1, .int x)] [] _ _ _ _ _
  refine V_aload_n 1 0 rfl _ rfl rfl dX11_told_0 rfl ?_
  refine V_iconst 2 (0) rfl dX11_told_1 rfl ?_
  refine V_putI 5 69 11 0 flX11_3 rfl rfl rfl (by decide) rfl dX11_told_2 rfl ?_
  rw [← hI0]
  refine V_aload_n 6 0 rfl _ rfl rfl dX11_told_5 rfl ?_
  refine V_iload_n 7 1 rfl rfl dX11_told_6 rfl ?_
  refine V_iconst 8 (0) rfl dX11_told_7 rfl ?_
  refine V_bipush 10 (10) rfl dX11_told_8 rfl ?_
  refine V_callS (K' := 0) (S' := 0) 13 3 [.int x, .int 0, .int 10] mkX11_within lkX11_383 rfl (Nat.le_of_ble_eq_true rfl) (Nat.le_of_ble_eq_true rfl) (Nat.le_of_ble_eq_true rfl) (Nat.le_of_ble_eq_true rfl) rfl rfl dX11_told_10 rfl (c_X11_within (fun a10 b10 => ?_) (fun a10 => ?_))
  · refine Kq_i (k' := 0) (sl' := 0) rfl rfl ?_
    rw [ckW_y a10 b10] at hq
    obtain ⟨j, hj, rfl⟩ := in_nI (n := 10) (by decide) a10 b10
    refine V_iconst 14 (1) rfl dX11_told_13 rfl ?_
    refine V_iconst 15 (1) rfl dX11_told_14 rfl ?_
    refine V_callV (K' := 0) (S' := 0) 18 69 11 3 [.int 1, .int 1, .int 1] mkX11_may lkX11_216 (by decide) rfl rfl (by decide) rfl (Nat.le_of_ble_eq_true rfl) (Nat.le_of_ble_eq_true rfl) (Nat.le_of_ble_eq_true rfl) (Nat.le_of_ble_eq_true rfl) rfl rfl dX11_told_15 rfl (c_X11_may (cd := 1) (kd := 1) hRM (by decide) (by decide) (by decide) ht (fun _ => ?_) (fun e => absurd e (by decide)))
    refine Kq_i (k' := 0) (sl' := 0) rfl rfl ?_
    refine V_if_ne 23 21 rfl dX11_told_18 rfl (fun c18 => ?_) (fun c18 => absurd c18 (by decide))
    refine V_aload_n 24 0 rfl _ rfl rfl dX11_told_23 rfl ?_
    refine V_callV (K' := 0) (S' := 0) 27 69 11 0 [] mkX11_take lkX11_323 (by decide) rfl rfl (by decide) rfl (Nat.le_of_ble_eq_true rfl) (Nat.le_of_ble_eq_true rfl) (Nat.le_of_ble_eq_true rfl) (Nat.le_of_ble_eq_true rfl) rfl rfl dX11_told_24 rfl (c_X11_take hRM (fun I1 hT1 hT2 => ?_))
    refine Kq_v (k' := 0) (sl' := 0) rfl rfl ?_
    have hz1 := hz.go (fun a _ _ h3 _ _ => hT1 a h3)
    have hM : DayM I1 D := fun k hk => (hT2 k hk).trans (hN k hk)
    have hK1 := hK.frS (fun a _ _ h3 _ => hT1 a h3)
    have hL1 := hL.fr (I' := I1) (by rw [hT1 69 (by decide)]) (hT1 82 (by decide)) (hT1 83 (by decide))
    rw [nI_clamp (show j < 2 ^ 31 by omega)] at hq
    rcases (show j = 0 ∨ j = 1 ∨ j = 2 ∨ j = 3 ∨ j = 4 ∨ j = 5 ∨ j = 6 ∨ j = 7 ∨ j = 8 ∨ j = 9 ∨ j = 10 by omega) with rfl | rfl | rfl | rfl | rfl | rfl | rfl | rfl | rfl | rfl | rfl
    · show V _ _ _ _ _ _ _ _ [(0, rf G 69), (1, .int 0)] [] _ _ _ _ _
      refine V_iload_n 28 1 rfl rfl dX11_told_27 rfl ?_
      refine V_iconst 29 (4) rfl dX11_told_28 rfl ?_
      refine V_icmp_ge 75 32 rfl dX11_told_29 rfl (fun c29 => absurd c29 (by decide)) (fun c29 => ?_)
      refine V_iload_n 33 1 rfl rfl dX11_told_32 rfl ?_
      refine V_if_ne 43 36 rfl dX11_told_33 rfl (fun c33 => absurd c33 (by decide)) (fun c33 => ?_)
      refine V_aload_n 37 0 rfl _ rfl rfl dX11_told_36 rfl ?_
      refine V_getI 40 69 11 21 (nI (cH K)) hK1.1 flX11_175 rfl rfl rfl (by decide) dX11_told_37 rfl ?_
      refine V_goto 74 rfl dX11_told_40 ?_
      refine V_ret_i rfl rfl (Nat.le_of_ble_eq_true rfl) (fun h => absurd h (by decide)) (Nat.le_of_ble_eq_true rfl) (hq I1 hz1) dX11_told_74
    · show V _ _ _ _ _ _ _ _ [(0, rf G 69), (1, .int 1)] [] _ _ _ _ _
      refine V_iload_n 28 1 rfl rfl dX11_told_27 rfl ?_
      refine V_iconst 29 (4) rfl dX11_told_28 rfl ?_
      refine V_icmp_ge 75 32 rfl dX11_told_29 rfl (fun c29 => absurd c29 (by decide)) (fun c29 => ?_)
      refine V_iload_n 33 1 rfl rfl dX11_told_32 rfl ?_
      refine V_if_ne 43 36 rfl dX11_told_33 rfl (fun c33 => ?_) (fun c33 => absurd c33 (by decide))
      refine V_iload_n 44 1 rfl rfl dX11_told_43 rfl ?_
      refine V_iconst 45 (1) rfl dX11_told_44 rfl ?_
      refine V_icmp_ne 55 48 rfl dX11_told_45 rfl (fun c45 => absurd c45 (by decide)) (fun c45 => ?_)
      refine V_aload_n 49 0 rfl _ rfl rfl dX11_told_48 rfl ?_
      refine V_getI 52 69 11 22 (nI (cG K)) hK1.2.1 flX11_178 rfl rfl rfl (by decide) dX11_told_49 rfl ?_
      refine V_goto 74 rfl dX11_told_52 ?_
      refine V_ret_i rfl rfl (Nat.le_of_ble_eq_true rfl) (fun h => absurd h (by decide)) (Nat.le_of_ble_eq_true rfl) (hq I1 hz1) dX11_told_74
    · show V _ _ _ _ _ _ _ _ [(0, rf G 69), (1, .int 2)] [] _ _ _ _ _
      refine V_iload_n 28 1 rfl rfl dX11_told_27 rfl ?_
      refine V_iconst 29 (4) rfl dX11_told_28 rfl ?_
      refine V_icmp_ge 75 32 rfl dX11_told_29 rfl (fun c29 => absurd c29 (by decide)) (fun c29 => ?_)
      refine V_iload_n 33 1 rfl rfl dX11_told_32 rfl ?_
      refine V_if_ne 43 36 rfl dX11_told_33 rfl (fun c33 => ?_) (fun c33 => absurd c33 (by decide))
      refine V_iload_n 44 1 rfl rfl dX11_told_43 rfl ?_
      refine V_iconst 45 (1) rfl dX11_told_44 rfl ?_
      refine V_icmp_ne 55 48 rfl dX11_told_45 rfl (fun c45 => ?_) (fun c45 => absurd c45 (by decide))
      refine V_iload_n 56 1 rfl rfl dX11_told_55 rfl ?_
      refine V_iconst 57 (2) rfl dX11_told_56 rfl ?_
      refine V_icmp_ne 67 60 rfl dX11_told_57 rfl (fun c57 => absurd c57 (by decide)) (fun c57 => ?_)
      refine V_aload_n 61 0 rfl _ rfl rfl dX11_told_60 rfl ?_
      refine V_getI 64 69 11 23 (nI (cM K)) hK1.2.2.1 flX11_181 rfl rfl rfl (by decide) dX11_told_61 rfl ?_
      refine V_goto 74 rfl dX11_told_64 ?_
      refine V_ret_i rfl rfl (Nat.le_of_ble_eq_true rfl) (fun h => absurd h (by decide)) (Nat.le_of_ble_eq_true rfl) (hq I1 hz1) dX11_told_74
    · show V _ _ _ _ _ _ _ _ [(0, rf G 69), (1, .int 3)] [] _ _ _ _ _
      refine V_iload_n 28 1 rfl rfl dX11_told_27 rfl ?_
      refine V_iconst 29 (4) rfl dX11_told_28 rfl ?_
      refine V_icmp_ge 75 32 rfl dX11_told_29 rfl (fun c29 => absurd c29 (by decide)) (fun c29 => ?_)
      refine V_iload_n 33 1 rfl rfl dX11_told_32 rfl ?_
      refine V_if_ne 43 36 rfl dX11_told_33 rfl (fun c33 => ?_) (fun c33 => absurd c33 (by decide))
      refine V_iload_n 44 1 rfl rfl dX11_told_43 rfl ?_
      refine V_iconst 45 (1) rfl dX11_told_44 rfl ?_
      refine V_icmp_ne 55 48 rfl dX11_told_45 rfl (fun c45 => ?_) (fun c45 => absurd c45 (by decide))
      refine V_iload_n 56 1 rfl rfl dX11_told_55 rfl ?_
      refine V_iconst 57 (2) rfl dX11_told_56 rfl ?_
      refine V_icmp_ne 67 60 rfl dX11_told_57 rfl (fun c57 => ?_) (fun c57 => absurd c57 (by decide))
      refine V_aload_n 68 0 rfl _ rfl rfl dX11_told_67 rfl ?_
      refine V_getR 71 69 11 41 89 (hRM 41) flX11_74 rfl rfl rfl (by decide) dX11_told_68 rfl ?_
      refine V_bipush 73 (50) rfl dX11_told_71 rfl ?_
      refine V_ialdN 74 89 51 50 (D 50) (hM (50) (by omega)) (by omega) (by decide) rfl (by decide) dX11_told_73 rfl ?_
      refine V_ret_i rfl rfl (Nat.le_of_ble_eq_true rfl) (fun h => absurd h (by decide)) (Nat.le_of_ble_eq_true rfl) (hq I1 hz1) dX11_told_74
    · show V _ _ _ _ _ _ _ _ [(0, rf G 69), (1, .int 4)] [] _ _ _ _ _
      refine V_iload_n 28 1 rfl rfl dX11_told_27 rfl ?_
      refine V_iconst 29 (4) rfl dX11_told_28 rfl ?_
      refine V_icmp_ge 75 32 rfl dX11_told_29 rfl (fun c29 => ?_) (fun c29 => absurd c29 (by decide))
      refine V_iload_n 76 1 rfl rfl dX11_told_75 rfl ?_
      refine V_bipush 78 (7) rfl dX11_told_76 rfl ?_
      refine V_icmp_ge 110 81 rfl dX11_told_78 rfl (fun c78 => absurd c78 (by decide)) (fun c78 => ?_)
      refine V_iload_n 82 1 rfl rfl dX11_told_81 rfl ?_
      refine V_iconst 83 (4) rfl dX11_told_82 rfl ?_
      refine V_icmp_ne 93 86 rfl dX11_told_83 rfl (fun c83 => absurd c83 (by decide)) (fun c83 => ?_)
      refine V_aload_n 87 0 rfl _ rfl rfl dX11_told_86 rfl ?_
      refine V_callV (K' := 0) (S' := 0) 90 69 11 0 [] mkX11_livingNow lkX11_386 (by decide) rfl rfl (by decide) rfl (Nat.le_of_ble_eq_true rfl) (Nat.le_of_ble_eq_true rfl) (Nat.le_of_ble_eq_true rfl) (Nat.le_of_ble_eq_true rfl) rfl rfl dX11_told_87 rfl (c_X11_livingNow hRM hK1 h6 hM ?_)
      rw [← livB_to (fun m a b => (hB m a b).2.2.1) 6 h6 (Nat.le_refl _)]
      refine Kq_i (k' := 0) (sl' := 0) rfl rfl ?_
      refine V_goto 109 rfl dX11_told_90 ?_
      refine V_ret_i rfl rfl (Nat.le_of_ble_eq_true rfl) (fun h => absurd h (by decide)) (Nat.le_of_ble_eq_true rfl) (hq I1 hz1) dX11_told_109
    · show V _ _ _ _ _ _ _ _ [(0, rf G 69), (1, .int 5)] [] _ _ _ _ _
      refine V_iload_n 28 1 rfl rfl dX11_told_27 rfl ?_
      refine V_iconst 29 (4) rfl dX11_told_28 rfl ?_
      refine V_icmp_ge 75 32 rfl dX11_told_29 rfl (fun c29 => ?_) (fun c29 => absurd c29 (by decide))
      refine V_iload_n 76 1 rfl rfl dX11_told_75 rfl ?_
      refine V_bipush 78 (7) rfl dX11_told_76 rfl ?_
      refine V_icmp_ge 110 81 rfl dX11_told_78 rfl (fun c78 => absurd c78 (by decide)) (fun c78 => ?_)
      refine V_iload_n 82 1 rfl rfl dX11_told_81 rfl ?_
      refine V_iconst 83 (4) rfl dX11_told_82 rfl ?_
      refine V_icmp_ne 93 86 rfl dX11_told_83 rfl (fun c83 => ?_) (fun c83 => absurd c83 (by decide))
      refine V_iload_n 94 1 rfl rfl dX11_told_93 rfl ?_
      refine V_iconst 95 (5) rfl dX11_told_94 rfl ?_
      refine V_icmp_ne 105 98 rfl dX11_told_95 rfl (fun c95 => absurd c95 (by decide)) (fun c95 => ?_)
      refine V_aload_n 99 0 rfl _ rfl rfl dX11_told_98 rfl ?_
      refine V_callV (K' := 0) (S' := 0) 102 69 11 0 [] mkX11_atSea lkX11_389 (by decide) rfl rfl (by decide) rfl (Nat.le_of_ble_eq_true rfl) (Nat.le_of_ble_eq_true rfl) (Nat.le_of_ble_eq_true rfl) (Nat.le_of_ble_eq_true rfl) rfl rfl dX11_told_99 rfl (c_X11_atSea hRM hK1 h6 hM ?_)
      rw [← seaF_to (fun m a b => (hB m a b).2.1) 6 h6 (Nat.le_refl _)]
      refine Kq_i (k' := 0) (sl' := 0) rfl rfl ?_
      refine V_goto 109 rfl dX11_told_102 ?_
      refine V_ret_i rfl rfl (Nat.le_of_ble_eq_true rfl) (fun h => absurd h (by decide)) (Nat.le_of_ble_eq_true rfl) (hq I1 hz1) dX11_told_109
    · show V _ _ _ _ _ _ _ _ [(0, rf G 69), (1, .int 6)] [] _ _ _ _ _
      refine V_iload_n 28 1 rfl rfl dX11_told_27 rfl ?_
      refine V_iconst 29 (4) rfl dX11_told_28 rfl ?_
      refine V_icmp_ge 75 32 rfl dX11_told_29 rfl (fun c29 => ?_) (fun c29 => absurd c29 (by decide))
      refine V_iload_n 76 1 rfl rfl dX11_told_75 rfl ?_
      refine V_bipush 78 (7) rfl dX11_told_76 rfl ?_
      refine V_icmp_ge 110 81 rfl dX11_told_78 rfl (fun c78 => absurd c78 (by decide)) (fun c78 => ?_)
      refine V_iload_n 82 1 rfl rfl dX11_told_81 rfl ?_
      refine V_iconst 83 (4) rfl dX11_told_82 rfl ?_
      refine V_icmp_ne 93 86 rfl dX11_told_83 rfl (fun c83 => ?_) (fun c83 => absurd c83 (by decide))
      refine V_iload_n 94 1 rfl rfl dX11_told_93 rfl ?_
      refine V_iconst 95 (5) rfl dX11_told_94 rfl ?_
      refine V_icmp_ne 105 98 rfl dX11_told_95 rfl (fun c95 => ?_) (fun c95 => absurd c95 (by decide))
      refine V_aload_n 106 0 rfl _ rfl rfl dX11_told_105 rfl ?_
      refine V_callV (K' := 0) (S' := 0) 109 69 11 0 [] mkX11_wornNow lkX11_392 (by decide) rfl rfl (by decide) rfl (Nat.le_of_ble_eq_true rfl) (Nat.le_of_ble_eq_true rfl) (Nat.le_of_ble_eq_true rfl) (Nat.le_of_ble_eq_true rfl) rfl rfl dX11_told_106 rfl (c_X11_wornNow hRM hK1 h6 hM ?_)
      rw [← wornF_to (fun m a b => (hB m a b).1) 6 h6 (Nat.le_refl _)]
      refine Kq_i (k' := 0) (sl' := 0) rfl rfl ?_
      refine V_ret_i rfl rfl (Nat.le_of_ble_eq_true rfl) (fun h => absurd h (by decide)) (Nat.le_of_ble_eq_true rfl) (hq I1 hz1) dX11_told_109
    · show V _ _ _ _ _ _ _ _ [(0, rf G 69), (1, .int 7)] [] _ _ _ _ _
      refine V_iload_n 28 1 rfl rfl dX11_told_27 rfl ?_
      refine V_iconst 29 (4) rfl dX11_told_28 rfl ?_
      refine V_icmp_ge 75 32 rfl dX11_told_29 rfl (fun c29 => ?_) (fun c29 => absurd c29 (by decide))
      refine V_iload_n 76 1 rfl rfl dX11_told_75 rfl ?_
      refine V_bipush 78 (7) rfl dX11_told_76 rfl ?_
      refine V_icmp_ge 110 81 rfl dX11_told_78 rfl (fun c78 => ?_) (fun c78 => absurd c78 (by decide))
      refine V_iload_n 111 1 rfl rfl dX11_told_110 rfl ?_
      refine V_bipush 113 (7) rfl dX11_told_111 rfl ?_
      refine V_icmp_ne 129 116 rfl dX11_told_113 rfl (fun c113 => absurd c113 (by decide)) (fun c113 => ?_)
      refine V_aload_n 117 0 rfl _ rfl rfl dX11_told_116 rfl ?_
      refine V_bipush 119 (44) rfl dX11_told_117 rfl ?_
      refine V_aload_n 120 0 rfl _ rfl rfl dX11_told_119 rfl ?_
      refine V_getI 123 69 11 22 (nI (cG K)) hK1.2.1 flX11_178 rfl rfl rfl (by decide) dX11_told_120 rfl ?_
      refine V_callV (K' := 0) (S' := 0) 126 69 11 2 [.int 44, .int (nI (cG K))] mkX11_sumOf lkX11_395 (by decide) rfl rfl (by decide) rfl (Nat.le_of_ble_eq_true rfl) (Nat.le_of_ble_eq_true rfl) (Nat.le_of_ble_eq_true rfl) (Nat.le_of_ble_eq_true rfl) rfl rfl dX11_told_123 rfl (c_X11_sumOf (b := 44) (z := cG K) hRM (by omega) hM ?_)
      rw [← sumF_to (b := 44) (N := 6) (fun m a b => hI.2.2.2.2.2 m a b) 6 hg6 (Nat.le_refl _)]
      refine Kq_i (k' := 0) (sl' := 0) rfl rfl ?_
      refine V_goto 165 rfl dX11_told_126 ?_
      refine V_ret_i rfl rfl (Nat.le_of_ble_eq_true rfl) (fun h => absurd h (by decide)) (Nat.le_of_ble_eq_true rfl) (hq I1 hz1) dX11_told_165
    · show V _ _ _ _ _ _ _ _ [(0, rf G 69), (1, .int 8)] [] _ _ _ _ _
      refine V_iload_n 28 1 rfl rfl dX11_told_27 rfl ?_
      refine V_iconst 29 (4) rfl dX11_told_28 rfl ?_
      refine V_icmp_ge 75 32 rfl dX11_told_29 rfl (fun c29 => ?_) (fun c29 => absurd c29 (by decide))
      refine V_iload_n 76 1 rfl rfl dX11_told_75 rfl ?_
      refine V_bipush 78 (7) rfl dX11_told_76 rfl ?_
      refine V_icmp_ge 110 81 rfl dX11_told_78 rfl (fun c78 => ?_) (fun c78 => absurd c78 (by decide))
      refine V_iload_n 111 1 rfl rfl dX11_told_110 rfl ?_
      refine V_bipush 113 (7) rfl dX11_told_111 rfl ?_
      refine V_icmp_ne 129 116 rfl dX11_told_113 rfl (fun c113 => ?_) (fun c113 => absurd c113 (by decide))
      refine V_iload_n 130 1 rfl rfl dX11_told_129 rfl ?_
      refine V_bipush 132 (8) rfl dX11_told_130 rfl ?_
      refine V_icmp_ne 148 135 rfl dX11_told_132 rfl (fun c132 => absurd c132 (by decide)) (fun c132 => ?_)
      refine V_aload_n 136 0 rfl _ rfl rfl dX11_told_135 rfl ?_
      refine V_bipush 138 (24) rfl dX11_told_136 rfl ?_
      refine V_aload_n 139 0 rfl _ rfl rfl dX11_told_138 rfl ?_
      refine V_getI 142 69 11 23 (nI (cM K)) hK1.2.2.1 flX11_181 rfl rfl rfl (by decide) dX11_told_139 rfl ?_
      refine V_callV (K' := 0) (S' := 0) 145 69 11 2 [.int 24, .int (nI (cM K))] mkX11_sumOf lkX11_395 (by decide) rfl rfl (by decide) rfl (Nat.le_of_ble_eq_true rfl) (Nat.le_of_ble_eq_true rfl) (Nat.le_of_ble_eq_true rfl) (Nat.le_of_ble_eq_true rfl) rfl rfl dX11_told_142 rfl (c_X11_sumOf (b := 24) (z := cM K) hRM (by omega) hM ?_)
      rw [← sumF_to (b := 24) (N := 6) (fun m a b => (hB m a b).2.2.2) 6 h6 (Nat.le_refl _)]
      refine Kq_i (k' := 0) (sl' := 0) rfl rfl ?_
      refine V_goto 165 rfl dX11_told_145 ?_
      refine V_ret_i rfl rfl (Nat.le_of_ble_eq_true rfl) (fun h => absurd h (by decide)) (Nat.le_of_ble_eq_true rfl) (hq I1 hz1) dX11_told_165
    · show V _ _ _ _ _ _ _ _ [(0, rf G 69), (1, .int 9)] [] _ _ _ _ _
      refine V_iload_n 28 1 rfl rfl dX11_told_27 rfl ?_
      refine V_iconst 29 (4) rfl dX11_told_28 rfl ?_
      refine V_icmp_ge 75 32 rfl dX11_told_29 rfl (fun c29 => ?_) (fun c29 => absurd c29 (by decide))
      refine V_iload_n 76 1 rfl rfl dX11_told_75 rfl ?_
      refine V_bipush 78 (7) rfl dX11_told_76 rfl ?_
      refine V_icmp_ge 110 81 rfl dX11_told_78 rfl (fun c78 => ?_) (fun c78 => absurd c78 (by decide))
      refine V_iload_n 111 1 rfl rfl dX11_told_110 rfl ?_
      refine V_bipush 113 (7) rfl dX11_told_111 rfl ?_
      refine V_icmp_ne 129 116 rfl dX11_told_113 rfl (fun c113 => ?_) (fun c113 => absurd c113 (by decide))
      refine V_iload_n 130 1 rfl rfl dX11_told_129 rfl ?_
      refine V_bipush 132 (8) rfl dX11_told_130 rfl ?_
      refine V_icmp_ne 148 135 rfl dX11_told_132 rfl (fun c132 => ?_) (fun c132 => absurd c132 (by decide))
      refine V_iload_n 149 1 rfl rfl dX11_told_148 rfl ?_
      refine V_bipush 151 (9) rfl dX11_told_149 rfl ?_
      refine V_icmp_ne 161 154 rfl dX11_told_151 rfl (fun c151 => absurd c151 (by decide)) (fun c151 => ?_)
      refine V_aload_n 155 0 rfl _ rfl rfl dX11_told_154 rfl ?_
      refine V_getI 158 69 11 46 nb (by rw [hz1.2.2 46 (by decide) (by decide)]; exact hnb) flX11_191 rfl rfl rfl (by decide) dX11_told_155 rfl ?_
      refine V_goto 165 rfl dX11_told_158 ?_
      refine V_ret_i rfl rfl (Nat.le_of_ble_eq_true rfl) (fun h => absurd h (by decide)) (Nat.le_of_ble_eq_true rfl) (hq I1 hz1) dX11_told_165
    · show V _ _ _ _ _ _ _ _ [(0, rf G 69), (1, .int 10)] [] _ _ _ _ _
      refine V_iload_n 28 1 rfl rfl dX11_told_27 rfl ?_
      refine V_iconst 29 (4) rfl dX11_told_28 rfl ?_
      refine V_icmp_ge 75 32 rfl dX11_told_29 rfl (fun c29 => ?_) (fun c29 => absurd c29 (by decide))
      refine V_iload_n 76 1 rfl rfl dX11_told_75 rfl ?_
      refine V_bipush 78 (7) rfl dX11_told_76 rfl ?_
      refine V_icmp_ge 110 81 rfl dX11_told_78 rfl (fun c78 => ?_) (fun c78 => absurd c78 (by decide))
      refine V_iload_n 111 1 rfl rfl dX11_told_110 rfl ?_
      refine V_bipush 113 (7) rfl dX11_told_111 rfl ?_
      refine V_icmp_ne 129 116 rfl dX11_told_113 rfl (fun c113 => ?_) (fun c113 => absurd c113 (by decide))
      refine V_iload_n 130 1 rfl rfl dX11_told_129 rfl ?_
      refine V_bipush 132 (8) rfl dX11_told_130 rfl ?_
      refine V_icmp_ne 148 135 rfl dX11_told_132 rfl (fun c132 => ?_) (fun c132 => absurd c132 (by decide))
      refine V_iload_n 149 1 rfl rfl dX11_told_148 rfl ?_
      refine V_bipush 151 (9) rfl dX11_told_149 rfl ?_
      refine V_icmp_ne 161 154 rfl dX11_told_151 rfl (fun c151 => ?_) (fun c151 => absurd c151 (by decide))
      refine V_aload_n 162 0 rfl _ rfl rfl dX11_told_161 rfl ?_
      refine V_getI 165 69 11 36 rs (by rw [hz1.2.2 36 (by decide) (by decide)]; exact hrs) flX11_200 rfl rfl rfl (by decide) dX11_told_162 rfl ?_
      refine V_ret_i rfl rfl (Nat.le_of_ble_eq_true rfl) (fun h => absurd h (by decide)) (Nat.le_of_ble_eq_true rfl) (hq I1 hz1) dX11_told_165
  · refine Kq_i (k' := 0) (sl' := 0) rfl rfl ?_
    rw [ckW_n a10] at hq
    refine V_iconst 14 (1) rfl dX11_told_13 rfl ?_
    refine V_iconst 15 (1) rfl dX11_told_14 rfl ?_
    refine V_callV (K' := 0) (S' := 0) 18 69 11 3 [.int 0, .int 1, .int 1] mkX11_may lkX11_216 (by decide) rfl rfl (by decide) rfl (Nat.le_of_ble_eq_true rfl) (Nat.le_of_ble_eq_true rfl) (Nat.le_of_ble_eq_true rfl) (Nat.le_of_ble_eq_true rfl) rfl rfl dX11_told_15 rfl (c_X11_may (cd := 1) (kd := 1) hRM (by decide) (by decide) (by decide) ht (fun e => absurd rfl e) (fun _ => ?_))
    refine Kq_i (k' := 0) (sl' := 0) rfl rfl ?_
    refine V_if_ne 23 21 rfl dX11_told_18 rfl (fun c18 => absurd c18 (by decide)) (fun c18 => ?_)
    refine V_iconst 22 (0) rfl dX11_told_21 rfl ?_
    refine V_ret_i rfl rfl (Nat.le_of_ble_eq_true rfl) (fun h => absurd h (by decide)) (Nat.le_of_ble_eq_true rfl) (hq.x hI0 rfl) dX11_told_22
set_option maxHeartbeats 8000000 in
theorem c_X11_hat {G : Gx} {d : Nat} {I : FI} {R : FR} {J : FJ} {Q : Po} {K : CO} {f : DV → Int32} {D : DV} (hX : RM I R K f D) {x y : Int32}  (hq : HoM I R J Q 2 (ckN x (cH K) (ckW y 0 3 (.inl (hatF K D x.toNatClampNeg y.toNatClampNeg))))) : Cc G mX11_hat (d + 60) 0 0 [rf G 69, .int x, .int y] 103 I R J Q := by
  obtain ⟨I0, hI0⟩ : ∃ I0, I0 = up2 I 69 0 0 := ⟨_, rfl⟩
  have hz := FrM.z hI0
  obtain ⟨hRM, hK, hW, hN, hI, hL, hfR⟩ := hX.fr hz
  have ht : I0 69 0 = 0 := hz.2.1
  have h8 := hW.1
  have hg6 := hW.2.1
  have h6 := hW.2.2.1
  have hWD := hI.1
  have hFl := hI.1.1
  have hB := hI.2.2.1
  have hSt := hI.2.1
  show V _ _ _ _ _ _ _ _ [(0, rf G 69), (1, .int x), (2, .int y)] [] _ _ _ _ _
  refine V_aload_n 1 0 rfl _ rfl rfl dX11_hat_0 rfl ?_
  refine V_iconst 2 (0) rfl dX11_hat_1 rfl ?_
  refine V_putI 5 69 11 0 flX11_3 rfl rfl rfl (by decide) rfl dX11_hat_2 rfl ?_
  rw [← hI0]
  refine V_aload_n 6 0 rfl _ rfl rfl dX11_hat_5 rfl ?_
  refine V_iload_n 7 1 rfl rfl dX11_hat_6 rfl ?_
  refine V_iconst 8 (1) rfl dX11_hat_7 rfl ?_
  refine V_callV (K' := 0) (S' := 0) 11 69 11 2 [.int x, .int 1] mkX11_isHat lkX11_398 (by decide) rfl rfl (by decide) rfl (Nat.le_of_ble_eq_true rfl) (Nat.le_of_ble_eq_true rfl) (Nat.le_of_ble_eq_true rfl) (Nat.le_of_ble_eq_true rfl) rfl rfl dX11_hat_8 rfl (c_X11_isHat (c := cH K) (cd := 1) hRM (by omega) hK.1 (by decide) (by decide) ht (fun i8 => ?_) (fun i8 => ?_))
  · refine Kq_i (k' := 0) (sl' := 0) rfl rfl ?_
    rw [ckN_y (by omega) i8] at hq
    obtain ⟨h, hh, rfl⟩ := i8
    refine V_if_eq 29 14 rfl dX11_hat_11 rfl (fun c11 => absurd c11 (by decide)) (fun c11 => ?_)
    refine V_aload_n 15 0 rfl _ rfl rfl dX11_hat_14 rfl ?_
    refine V_iload_n 16 2 rfl rfl dX11_hat_15 rfl ?_
    refine V_iconst 17 (0) rfl dX11_hat_16 rfl ?_
    refine V_iconst 18 (3) rfl dX11_hat_17 rfl ?_
    refine V_callS (K' := 0) (S' := 0) 21 3 [.int y, .int 0, .int 3] mkX11_within lkX11_383 rfl (Nat.le_of_ble_eq_true rfl) (Nat.le_of_ble_eq_true rfl) (Nat.le_of_ble_eq_true rfl) (Nat.le_of_ble_eq_true rfl) rfl rfl dX11_hat_18 rfl (c_X11_within (fun a18 b18 => ?_) (fun a18 => ?_))
    · refine Kq_i (k' := 0) (sl' := 0) rfl rfl ?_
      rw [ckW_y a18 b18] at hq
      obtain ⟨j, hj, rfl⟩ := in_nI (n := 3) (by decide) a18 b18
      refine V_iconst 22 (2) rfl dX11_hat_21 rfl ?_
      refine V_iconst 23 (1) rfl dX11_hat_22 rfl ?_
      refine V_callV (K' := 0) (S' := 0) 26 69 11 3 [.int 1, .int 2, .int 1] mkX11_may lkX11_216 (by decide) rfl rfl (by decide) rfl (Nat.le_of_ble_eq_true rfl) (Nat.le_of_ble_eq_true rfl) (Nat.le_of_ble_eq_true rfl) (Nat.le_of_ble_eq_true rfl) rfl rfl dX11_hat_23 rfl (c_X11_may (cd := 2) (kd := 1) hRM (by decide) (by decide) (by decide) ht (fun _ => ?_) (fun e => absurd e (by decide)))
      refine Kq_i (k' := 0) (sl' := 0) rfl rfl ?_
      refine V_if_ne 31 29 rfl dX11_hat_26 rfl (fun c26 => ?_) (fun c26 => absurd c26 (by decide))
      refine V_aload_n 32 0 rfl _ rfl rfl dX11_hat_31 rfl ?_
      refine V_callV (K' := 0) (S' := 0) 35 69 11 0 [] mkX11_take lkX11_323 (by decide) rfl rfl (by decide) rfl (Nat.le_of_ble_eq_true rfl) (Nat.le_of_ble_eq_true rfl) (Nat.le_of_ble_eq_true rfl) (Nat.le_of_ble_eq_true rfl) rfl rfl dX11_hat_32 rfl (c_X11_take hRM (fun I1 hT1 hT2 => ?_))
      refine Kq_v (k' := 0) (sl' := 0) rfl rfl ?_
      have hz1 := hz.go (fun a _ _ h3 _ _ => hT1 a h3)
      have hM : DayM I1 D := fun k hk => (hT2 k hk).trans (hN k hk)
      have hK1 := hK.frS (fun a _ _ h3 _ => hT1 a h3)
      have hL1 := hL.fr (I' := I1) (by rw [hT1 69 (by decide)]) (hT1 82 (by decide)) (hT1 83 (by decide))
      rw [nI_clamp (show h < 2 ^ 31 by omega)] at hq
      rw [nI_clamp (show j < 2 ^ 31 by omega)] at hq
      rcases (show j = 0 ∨ j = 1 ∨ j = 2 ∨ j = 3 by omega) with rfl | rfl | rfl | rfl
      · show V _ _ _ _ _ _ _ _ [(0, rf G 69), (1, .int (nI h)), (2, .int 0)] [] _ _ _ _ _
        refine V_iload_n 36 2 rfl rfl dX11_hat_35 rfl ?_
        refine V_iconst 37 (2) rfl dX11_hat_36 rfl ?_
        refine V_icmp_ge 53 40 rfl dX11_hat_37 rfl (fun c37 => absurd c37 (by decide)) (fun c37 => ?_)
        refine V_aload_n 41 0 rfl _ rfl rfl dX11_hat_40 rfl ?_
        refine V_getR 44 69 11 14 76 (hRM 14) flX11_35 rfl rfl rfl (by decide) dX11_hat_41 rfl ?_
        refine V_iconst 45 (2) rfl dX11_hat_44 rfl ?_
        refine V_iload_n 46 1 rfl rfl dX11_hat_45 rfl ?_
        refine V_imul 47 dX11_hat_46 rfl ?_
        refine V_rw (pk_mul 2 h) ?_
        refine V_iload_n 48 2 rfl rfl dX11_hat_47 rfl ?_
        refine V_iadd 49 dX11_hat_48 rfl ?_
        refine V_rw (show _ = nI (2 * h) from Int32.add_zero _) ?_
        refine V_ialdN 50 76 16 (2 * h) (cHat K (2 * h)) (hK1.2.2.2.1 h (by assumption)).1 (by omega) (by decide) rfl (by decide) dX11_hat_49 rfl ?_
        refine V_goto 75 rfl dX11_hat_50 ?_
        refine V_ret_i rfl rfl (Nat.le_of_ble_eq_true rfl) (fun h => absurd h (by decide)) (Nat.le_of_ble_eq_true rfl) (hq I1 hz1) dX11_hat_75
      · show V _ _ _ _ _ _ _ _ [(0, rf G 69), (1, .int (nI h)), (2, .int 1)] [] _ _ _ _ _
        refine V_iload_n 36 2 rfl rfl dX11_hat_35 rfl ?_
        refine V_iconst 37 (2) rfl dX11_hat_36 rfl ?_
        refine V_icmp_ge 53 40 rfl dX11_hat_37 rfl (fun c37 => absurd c37 (by decide)) (fun c37 => ?_)
        refine V_aload_n 41 0 rfl _ rfl rfl dX11_hat_40 rfl ?_
        refine V_getR 44 69 11 14 76 (hRM 14) flX11_35 rfl rfl rfl (by decide) dX11_hat_41 rfl ?_
        refine V_iconst 45 (2) rfl dX11_hat_44 rfl ?_
        refine V_iload_n 46 1 rfl rfl dX11_hat_45 rfl ?_
        refine V_imul 47 dX11_hat_46 rfl ?_
        refine V_rw (pk_mul 2 h) ?_
        refine V_iload_n 48 2 rfl rfl dX11_hat_47 rfl ?_
        refine V_iadd 49 dX11_hat_48 rfl ?_
        refine V_rw (show _ = nI (2 * h + 1) from nI_1 _) ?_
        refine V_ialdN 50 76 16 ((2 * h) + 1) (cHat K (2 * h + 1)) (hK1.2.2.2.1 h (by assumption)).2 (by omega) (by decide) rfl (by decide) dX11_hat_49 rfl ?_
        refine V_goto 75 rfl dX11_hat_50 ?_
        refine V_ret_i rfl rfl (Nat.le_of_ble_eq_true rfl) (fun h => absurd h (by decide)) (Nat.le_of_ble_eq_true rfl) (hq I1 hz1) dX11_hat_75
      · show V _ _ _ _ _ _ _ _ [(0, rf G 69), (1, .int (nI h)), (2, .int 2)] [] _ _ _ _ _
        refine V_iload_n 36 2 rfl rfl dX11_hat_35 rfl ?_
        refine V_iconst 37 (2) rfl dX11_hat_36 rfl ?_
        refine V_icmp_ge 53 40 rfl dX11_hat_37 rfl (fun c37 => ?_) (fun c37 => absurd c37 (by decide))
        refine V_iload_n 54 2 rfl rfl dX11_hat_53 rfl ?_
        refine V_iconst 55 (2) rfl dX11_hat_54 rfl ?_
        refine V_icmp_ne 66 58 rfl dX11_hat_55 rfl (fun c55 => absurd c55 (by decide)) (fun c55 => ?_)
        refine V_aload_n 59 0 rfl _ rfl rfl dX11_hat_58 rfl ?_
        refine V_iload_n 60 1 rfl rfl dX11_hat_59 rfl ?_
        refine V_callV (K' := 0) (S' := 0) 63 69 11 1 [.int (nI h)] mkX11_wearerOf lkX11_361 (by decide) rfl rfl (by decide) rfl (Nat.le_of_ble_eq_true rfl) (Nat.le_of_ble_eq_true rfl) (Nat.le_of_ble_eq_true rfl) (Nat.le_of_ble_eq_true rfl) rfl rfl dX11_hat_60 rfl (c_X11_wearerOf hRM hK1 h6 hM ?_)
        rw [← wearF_to (D := D) (show h < 2 ^ 31 by omega) h6 (fun j a b => (hB j a b).1)]
        refine Kq_i (k' := 0) (sl' := 0) rfl rfl ?_
        refine V_goto 75 rfl dX11_hat_63 ?_
        refine V_ret_i rfl rfl (Nat.le_of_ble_eq_true rfl) (fun h => absurd h (by decide)) (Nat.le_of_ble_eq_true rfl) (hq I1 hz1) dX11_hat_75
      · show V _ _ _ _ _ _ _ _ [(0, rf G 69), (1, .int (nI h)), (2, .int 3)] [] _ _ _ _ _
        refine V_iload_n 36 2 rfl rfl dX11_hat_35 rfl ?_
        refine V_iconst 37 (2) rfl dX11_hat_36 rfl ?_
        refine V_icmp_ge 53 40 rfl dX11_hat_37 rfl (fun c37 => ?_) (fun c37 => absurd c37 (by decide))
        refine V_iload_n 54 2 rfl rfl dX11_hat_53 rfl ?_
        refine V_iconst 55 (2) rfl dX11_hat_54 rfl ?_
        refine V_icmp_ne 66 58 rfl dX11_hat_55 rfl (fun c55 => ?_) (fun c55 => absurd c55 (by decide))
        refine V_aload_n 67 0 rfl _ rfl rfl dX11_hat_66 rfl ?_
        refine V_getR 70 69 11 41 89 (hRM 41) flX11_74 rfl rfl rfl (by decide) dX11_hat_67 rfl ?_
        refine V_bipush 72 (36) rfl dX11_hat_70 rfl ?_
        refine V_iload_n 73 1 rfl rfl dX11_hat_72 rfl ?_
        refine V_iadd 74 dX11_hat_73 rfl ?_
        refine V_rw (nI_add 36 h) ?_
        refine V_ialdN 75 89 51 (36 + h) (D (36 + h)) (hM ((36 + h)) (by omega)) (by omega) (by decide) rfl (by decide) dX11_hat_74 rfl ?_
        refine V_ret_i rfl rfl (Nat.le_of_ble_eq_true rfl) (fun h => absurd h (by decide)) (Nat.le_of_ble_eq_true rfl) (hq I1 hz1) dX11_hat_75
    · refine Kq_i (k' := 0) (sl' := 0) rfl rfl ?_
      rw [ckW_n a18] at hq
      refine V_iconst 22 (2) rfl dX11_hat_21 rfl ?_
      refine V_iconst 23 (1) rfl dX11_hat_22 rfl ?_
      refine V_callV (K' := 0) (S' := 0) 26 69 11 3 [.int 0, .int 2, .int 1] mkX11_may lkX11_216 (by decide) rfl rfl (by decide) rfl (Nat.le_of_ble_eq_true rfl) (Nat.le_of_ble_eq_true rfl) (Nat.le_of_ble_eq_true rfl) (Nat.le_of_ble_eq_true rfl) rfl rfl dX11_hat_23 rfl (c_X11_may (cd := 2) (kd := 1) hRM (by decide) (by decide) (by decide) ht (fun e => absurd rfl e) (fun _ => ?_))
      refine Kq_i (k' := 0) (sl' := 0) rfl rfl ?_
      refine V_if_ne 31 29 rfl dX11_hat_26 rfl (fun c26 => absurd c26 (by decide)) (fun c26 => ?_)
      refine V_iconst 30 (0) rfl dX11_hat_29 rfl ?_
      refine V_ret_i rfl rfl (Nat.le_of_ble_eq_true rfl) (fun h => absurd h (by decide)) (Nat.le_of_ble_eq_true rfl) (hq.x hI0 rfl) dX11_hat_30
  · refine Kq_i (k' := 0) (sl' := 0) rfl rfl ?_
    rw [ckN_n (by omega) i8] at hq
    refine V_if_eq 29 14 rfl dX11_hat_11 rfl (fun c11 => ?_) (fun c11 => absurd c11 (by decide))
    refine V_iconst 30 (0) rfl dX11_hat_29 rfl ?_
    refine V_ret_i rfl rfl (Nat.le_of_ble_eq_true rfl) (fun h => absurd h (by decide)) (Nat.le_of_ble_eq_true rfl) (hq.x hI0 rfl) dX11_hat_30
set_option maxHeartbeats 8000000 in
theorem c_X11_ground {G : Gx} {d : Nat} {I : FI} {R : FR} {J : FJ} {Q : Po} {K : CO} {f : DV → Int32} {D : DV} (hX : RM I R K f D) {x y : Int32}  (hq : HoM I R J Q 2 (ckN x (cG K) (ckW y 0 3 (.inl (grF K D x.toNatClampNeg y.toNatClampNeg))))) : Cc G mX11_ground (d + 60) 0 0 [rf G 69, .int x, .int y] 103 I R J Q := by
  obtain ⟨I0, hI0⟩ : ∃ I0, I0 = up2 I 69 0 0 := ⟨_, rfl⟩
  have hz := FrM.z hI0
  obtain ⟨hRM, hK, hW, hN, hI, hL, hfR⟩ := hX.fr hz
  have ht : I0 69 0 = 0 := hz.2.1
  have h8 := hW.1
  have hg6 := hW.2.1
  have h6 := hW.2.2.1
  have hWD := hI.1
  have hFl := hI.1.1
  have hB := hI.2.2.1
  have hSt := hI.2.1
  show V _ _ _ _ _ _ _ _ [(0, rf G 69), (1, .int x), (2, .int y)] [] _ _ _ _ _
  refine V_aload_n 1 0 rfl _ rfl rfl dX11_ground_0 rfl ?_
  refine V_iconst 2 (0) rfl dX11_ground_1 rfl ?_
  refine V_putI 5 69 11 0 flX11_3 rfl rfl rfl (by decide) rfl dX11_ground_2 rfl ?_
  rw [← hI0]
  refine V_aload_n 6 0 rfl _ rfl rfl dX11_ground_5 rfl ?_
  refine V_iload_n 7 1 rfl rfl dX11_ground_6 rfl ?_
  refine V_iconst 8 (1) rfl dX11_ground_7 rfl ?_
  refine V_callV (K' := 0) (S' := 0) 11 69 11 2 [.int x, .int 1] mkX11_isGround lkX11_401 (by decide) rfl rfl (by decide) rfl (Nat.le_of_ble_eq_true rfl) (Nat.le_of_ble_eq_true rfl) (Nat.le_of_ble_eq_true rfl) (Nat.le_of_ble_eq_true rfl) rfl rfl dX11_ground_8 rfl (c_X11_isGround (c := cG K) (cd := 1) hRM (by omega) hK.2.1 (by decide) (by decide) ht (fun i8 => ?_) (fun i8 => ?_))
  · refine Kq_i (k' := 0) (sl' := 0) rfl rfl ?_
    rw [ckN_y (by omega) i8] at hq
    obtain ⟨h, hh, rfl⟩ := i8
    refine V_if_eq 29 14 rfl dX11_ground_11 rfl (fun c11 => absurd c11 (by decide)) (fun c11 => ?_)
    refine V_aload_n 15 0 rfl _ rfl rfl dX11_ground_14 rfl ?_
    refine V_iload_n 16 2 rfl rfl dX11_ground_15 rfl ?_
    refine V_iconst 17 (0) rfl dX11_ground_16 rfl ?_
    refine V_iconst 18 (3) rfl dX11_ground_17 rfl ?_
    refine V_callS (K' := 0) (S' := 0) 21 3 [.int y, .int 0, .int 3] mkX11_within lkX11_383 rfl (Nat.le_of_ble_eq_true rfl) (Nat.le_of_ble_eq_true rfl) (Nat.le_of_ble_eq_true rfl) (Nat.le_of_ble_eq_true rfl) rfl rfl dX11_ground_18 rfl (c_X11_within (fun a18 b18 => ?_) (fun a18 => ?_))
    · refine Kq_i (k' := 0) (sl' := 0) rfl rfl ?_
      rw [ckW_y a18 b18] at hq
      obtain ⟨j, hj, rfl⟩ := in_nI (n := 3) (by decide) a18 b18
      refine V_iconst 22 (2) rfl dX11_ground_21 rfl ?_
      refine V_iconst 23 (1) rfl dX11_ground_22 rfl ?_
      refine V_callV (K' := 0) (S' := 0) 26 69 11 3 [.int 1, .int 2, .int 1] mkX11_may lkX11_216 (by decide) rfl rfl (by decide) rfl (Nat.le_of_ble_eq_true rfl) (Nat.le_of_ble_eq_true rfl) (Nat.le_of_ble_eq_true rfl) (Nat.le_of_ble_eq_true rfl) rfl rfl dX11_ground_23 rfl (c_X11_may (cd := 2) (kd := 1) hRM (by decide) (by decide) (by decide) ht (fun _ => ?_) (fun e => absurd e (by decide)))
      refine Kq_i (k' := 0) (sl' := 0) rfl rfl ?_
      refine V_if_ne 31 29 rfl dX11_ground_26 rfl (fun c26 => ?_) (fun c26 => absurd c26 (by decide))
      refine V_aload_n 32 0 rfl _ rfl rfl dX11_ground_31 rfl ?_
      refine V_callV (K' := 0) (S' := 0) 35 69 11 0 [] mkX11_take lkX11_323 (by decide) rfl rfl (by decide) rfl (Nat.le_of_ble_eq_true rfl) (Nat.le_of_ble_eq_true rfl) (Nat.le_of_ble_eq_true rfl) (Nat.le_of_ble_eq_true rfl) rfl rfl dX11_ground_32 rfl (c_X11_take hRM (fun I1 hT1 hT2 => ?_))
      refine Kq_v (k' := 0) (sl' := 0) rfl rfl ?_
      have hz1 := hz.go (fun a _ _ h3 _ _ => hT1 a h3)
      have hM : DayM I1 D := fun k hk => (hT2 k hk).trans (hN k hk)
      have hK1 := hK.frS (fun a _ _ h3 _ => hT1 a h3)
      have hL1 := hL.fr (I' := I1) (by rw [hT1 69 (by decide)]) (hT1 82 (by decide)) (hT1 83 (by decide))
      rw [nI_clamp (show h < 2 ^ 31 by omega)] at hq
      rw [nI_clamp (show j < 2 ^ 31 by omega)] at hq
      rcases (show j = 0 ∨ j = 1 ∨ j = 2 ∨ j = 3 by omega) with rfl | rfl | rfl | rfl
      · show V _ _ _ _ _ _ _ _ [(0, rf G 69), (1, .int (nI h)), (2, .int 0)] [] _ _ _ _ _
        refine V_iload_n 36 2 rfl rfl dX11_ground_35 rfl ?_
        refine V_if_ne 51 39 rfl dX11_ground_36 rfl (fun c36 => absurd c36 (by decide)) (fun c36 => ?_)
        refine V_aload_n 40 0 rfl _ rfl rfl dX11_ground_39 rfl ?_
        refine V_getR 43 69 11 41 89 (hRM 41) flX11_74 rfl rfl rfl (by decide) dX11_ground_40 rfl ?_
        refine V_bipush 45 (44) rfl dX11_ground_43 rfl ?_
        refine V_iload_n 46 1 rfl rfl dX11_ground_45 rfl ?_
        refine V_iadd 47 dX11_ground_46 rfl ?_
        refine V_rw (nI_add 44 h) ?_
        refine V_ialdN 48 89 51 (44 + h) (D (44 + h)) (hM ((44 + h)) (by omega)) (by omega) (by decide) rfl (by decide) dX11_ground_47 rfl ?_
        refine V_goto 90 rfl dX11_ground_48 ?_
        refine V_ret_i rfl rfl (Nat.le_of_ble_eq_true rfl) (fun h => absurd h (by decide)) (Nat.le_of_ble_eq_true rfl) (hq I1 hz1) dX11_ground_90
      · show V _ _ _ _ _ _ _ _ [(0, rf G 69), (1, .int (nI h)), (2, .int 1)] [] _ _ _ _ _
        refine V_iload_n 36 2 rfl rfl dX11_ground_35 rfl ?_
        refine V_if_ne 51 39 rfl dX11_ground_36 rfl (fun c36 => ?_) (fun c36 => absurd c36 (by decide))
        refine V_iload_n 52 2 rfl rfl dX11_ground_51 rfl ?_
        refine V_iconst 53 (1) rfl dX11_ground_52 rfl ?_
        refine V_icmp_ne 69 56 rfl dX11_ground_53 rfl (fun c53 => absurd c53 (by decide)) (fun c53 => ?_)
        refine V_aload_n 57 0 rfl _ rfl rfl dX11_ground_56 rfl ?_
        refine V_getR 60 69 11 15 77 (hRM 15) flX11_38 rfl rfl rfl (by decide) dX11_ground_57 rfl ?_
        refine V_iconst 61 (2) rfl dX11_ground_60 rfl ?_
        refine V_iload_n 62 1 rfl rfl dX11_ground_61 rfl ?_
        refine V_imul 63 dX11_ground_62 rfl ?_
        refine V_rw (pk_mul 2 h) ?_
        refine V_iconst 64 (1) rfl dX11_ground_63 rfl ?_
        refine V_iadd 65 dX11_ground_64 rfl ?_
        refine V_rw (nI_add (2 * h) 1) ?_
        refine V_ialdN 66 77 12 ((2 * h) + 1) (cGr K (2 * h + 1)) (hK1.2.2.2.2.1 h (by assumption)).2 (by omega) (by decide) rfl (by decide) dX11_ground_65 rfl ?_
        refine V_goto 90 rfl dX11_ground_66 ?_
        refine V_ret_i rfl rfl (Nat.le_of_ble_eq_true rfl) (fun h => absurd h (by decide)) (Nat.le_of_ble_eq_true rfl) (hq I1 hz1) dX11_ground_90
      · show V _ _ _ _ _ _ _ _ [(0, rf G 69), (1, .int (nI h)), (2, .int 2)] [] _ _ _ _ _
        refine V_iload_n 36 2 rfl rfl dX11_ground_35 rfl ?_
        refine V_if_ne 51 39 rfl dX11_ground_36 rfl (fun c36 => ?_) (fun c36 => absurd c36 (by decide))
        refine V_iload_n 52 2 rfl rfl dX11_ground_51 rfl ?_
        refine V_iconst 53 (1) rfl dX11_ground_52 rfl ?_
        refine V_icmp_ne 69 56 rfl dX11_ground_53 rfl (fun c53 => ?_) (fun c53 => absurd c53 (by decide))
        refine V_iload_n 70 2 rfl rfl dX11_ground_69 rfl ?_
        refine V_iconst 71 (2) rfl dX11_ground_70 rfl ?_
        refine V_icmp_ne 82 74 rfl dX11_ground_71 rfl (fun c71 => absurd c71 (by decide)) (fun c71 => ?_)
        refine V_aload_n 75 0 rfl _ rfl rfl dX11_ground_74 rfl ?_
        refine V_iload_n 76 1 rfl rfl dX11_ground_75 rfl ?_
        refine V_callV (K' := 0) (S' := 0) 79 69 11 1 [.int (nI h)] mkX11_menAt lkX11_351 (by decide) rfl rfl (by decide) rfl (Nat.le_of_ble_eq_true rfl) (Nat.le_of_ble_eq_true rfl) (Nat.le_of_ble_eq_true rfl) (Nat.le_of_ble_eq_true rfl) rfl rfl dX11_ground_76 rfl (c_X11_menAt hRM hK1 h6 hM ?_)
        rw [← mAtF_to (show h < 2 ^ 31 by omega) (fun j a b => (hB j a b).2.1) 6 h6 (Nat.le_refl _)]
        refine Kq_i (k' := 0) (sl' := 0) rfl rfl ?_
        refine V_goto 90 rfl dX11_ground_79 ?_
        refine V_ret_i rfl rfl (Nat.le_of_ble_eq_true rfl) (fun h => absurd h (by decide)) (Nat.le_of_ble_eq_true rfl) (hq I1 hz1) dX11_ground_90
      · show V _ _ _ _ _ _ _ _ [(0, rf G 69), (1, .int (nI h)), (2, .int 3)] [] _ _ _ _ _
        refine V_iload_n 36 2 rfl rfl dX11_ground_35 rfl ?_
        refine V_if_ne 51 39 rfl dX11_ground_36 rfl (fun c36 => ?_) (fun c36 => absurd c36 (by decide))
        refine V_iload_n 52 2 rfl rfl dX11_ground_51 rfl ?_
        refine V_iconst 53 (1) rfl dX11_ground_52 rfl ?_
        refine V_icmp_ne 69 56 rfl dX11_ground_53 rfl (fun c53 => ?_) (fun c53 => absurd c53 (by decide))
        refine V_iload_n 70 2 rfl rfl dX11_ground_69 rfl ?_
        refine V_iconst 71 (2) rfl dX11_ground_70 rfl ?_
        refine V_icmp_ne 82 74 rfl dX11_ground_71 rfl (fun c71 => ?_) (fun c71 => absurd c71 (by decide))
        refine V_aload_n 83 0 rfl _ rfl rfl dX11_ground_82 rfl ?_
        refine V_getR 86 69 11 15 77 (hRM 15) flX11_38 rfl rfl rfl (by decide) dX11_ground_83 rfl ?_
        refine V_iconst 87 (2) rfl dX11_ground_86 rfl ?_
        refine V_iload_n 88 1 rfl rfl dX11_ground_87 rfl ?_
        refine V_imul 89 dX11_ground_88 rfl ?_
        refine V_rw (pk_mul 2 h) ?_
        refine V_ialdN 90 77 12 (2 * h) (cGr K (2 * h)) (hK1.2.2.2.2.1 h (by assumption)).1 (by omega) (by decide) rfl (by decide) dX11_ground_89 rfl ?_
        refine V_ret_i rfl rfl (Nat.le_of_ble_eq_true rfl) (fun h => absurd h (by decide)) (Nat.le_of_ble_eq_true rfl) (hq I1 hz1) dX11_ground_90
    · refine Kq_i (k' := 0) (sl' := 0) rfl rfl ?_
      rw [ckW_n a18] at hq
      refine V_iconst 22 (2) rfl dX11_ground_21 rfl ?_
      refine V_iconst 23 (1) rfl dX11_ground_22 rfl ?_
      refine V_callV (K' := 0) (S' := 0) 26 69 11 3 [.int 0, .int 2, .int 1] mkX11_may lkX11_216 (by decide) rfl rfl (by decide) rfl (Nat.le_of_ble_eq_true rfl) (Nat.le_of_ble_eq_true rfl) (Nat.le_of_ble_eq_true rfl) (Nat.le_of_ble_eq_true rfl) rfl rfl dX11_ground_23 rfl (c_X11_may (cd := 2) (kd := 1) hRM (by decide) (by decide) (by decide) ht (fun e => absurd rfl e) (fun _ => ?_))
      refine Kq_i (k' := 0) (sl' := 0) rfl rfl ?_
      refine V_if_ne 31 29 rfl dX11_ground_26 rfl (fun c26 => absurd c26 (by decide)) (fun c26 => ?_)
      refine V_iconst 30 (0) rfl dX11_ground_29 rfl ?_
      refine V_ret_i rfl rfl (Nat.le_of_ble_eq_true rfl) (fun h => absurd h (by decide)) (Nat.le_of_ble_eq_true rfl) (hq.x hI0 rfl) dX11_ground_30
  · refine Kq_i (k' := 0) (sl' := 0) rfl rfl ?_
    rw [ckN_n (by omega) i8] at hq
    refine V_if_eq 29 14 rfl dX11_ground_11 rfl (fun c11 => ?_) (fun c11 => absurd c11 (by decide))
    refine V_iconst 30 (0) rfl dX11_ground_29 rfl ?_
    refine V_ret_i rfl rfl (Nat.le_of_ble_eq_true rfl) (fun h => absurd h (by decide)) (Nat.le_of_ble_eq_true rfl) (hq.x hI0 rfl) dX11_ground_30
set_option maxHeartbeats 8000000 in
theorem c_X11_man {G : Gx} {d : Nat} {I : FI} {R : FR} {J : FJ} {Q : Po} {K : CO} {f : DV → Int32} {D : DV} (hX : RM I R K f D) {x y : Int32}  (hq : HoM I R J Q 2 (ckN x (cM K) (ckW y 0 7 (.inl (manF K D x.toNatClampNeg y.toNatClampNeg))))) : Cc G mX11_man (d + 60) 0 0 [rf G 69, .int x, .int y] 103 I R J Q := by
  obtain ⟨I0, hI0⟩ : ∃ I0, I0 = up2 I 69 0 0 := ⟨_, rfl⟩
  have hz := FrM.z hI0
  obtain ⟨hRM, hK, hW, hN, hI, hL, hfR⟩ := hX.fr hz
  have ht : I0 69 0 = 0 := hz.2.1
  have h8 := hW.1
  have hg6 := hW.2.1
  have h6 := hW.2.2.1
  have hWD := hI.1
  have hFl := hI.1.1
  have hB := hI.2.2.1
  have hSt := hI.2.1
  show V _ _ _ _ _ _ _ _ [(0, rf G 69), (1, .int x), (2, .int y)] [] _ _ _ _ _
  refine V_aload_n 1 0 rfl _ rfl rfl dX11_man_0 rfl ?_
  refine V_iconst 2 (0) rfl dX11_man_1 rfl ?_
  refine V_putI 5 69 11 0 flX11_3 rfl rfl rfl (by decide) rfl dX11_man_2 rfl ?_
  rw [← hI0]
  refine V_aload_n 6 0 rfl _ rfl rfl dX11_man_5 rfl ?_
  refine V_iload_n 7 1 rfl rfl dX11_man_6 rfl ?_
  refine V_iconst 8 (1) rfl dX11_man_7 rfl ?_
  refine V_callV (K' := 0) (S' := 0) 11 69 11 2 [.int x, .int 1] mkX11_isMan lkX11_404 (by decide) rfl rfl (by decide) rfl (Nat.le_of_ble_eq_true rfl) (Nat.le_of_ble_eq_true rfl) (Nat.le_of_ble_eq_true rfl) (Nat.le_of_ble_eq_true rfl) rfl rfl dX11_man_8 rfl (c_X11_isMan (c := cM K) (cd := 1) hRM (by omega) hK.2.2.1 (by decide) (by decide) ht (fun i8 => ?_) (fun i8 => ?_))
  · refine Kq_i (k' := 0) (sl' := 0) rfl rfl ?_
    rw [ckN_y (by omega) i8] at hq
    obtain ⟨h, hh, rfl⟩ := i8
    refine V_if_eq 30 14 rfl dX11_man_11 rfl (fun c11 => absurd c11 (by decide)) (fun c11 => ?_)
    refine V_aload_n 15 0 rfl _ rfl rfl dX11_man_14 rfl ?_
    refine V_iload_n 16 2 rfl rfl dX11_man_15 rfl ?_
    refine V_iconst 17 (0) rfl dX11_man_16 rfl ?_
    refine V_bipush 19 (7) rfl dX11_man_17 rfl ?_
    refine V_callS (K' := 0) (S' := 0) 22 3 [.int y, .int 0, .int 7] mkX11_within lkX11_383 rfl (Nat.le_of_ble_eq_true rfl) (Nat.le_of_ble_eq_true rfl) (Nat.le_of_ble_eq_true rfl) (Nat.le_of_ble_eq_true rfl) rfl rfl dX11_man_19 rfl (c_X11_within (fun a19 b19 => ?_) (fun a19 => ?_))
    · refine Kq_i (k' := 0) (sl' := 0) rfl rfl ?_
      rw [ckW_y a19 b19] at hq
      obtain ⟨j, hj, rfl⟩ := in_nI (n := 7) (by decide) a19 b19
      refine V_iconst 23 (2) rfl dX11_man_22 rfl ?_
      refine V_iconst 24 (1) rfl dX11_man_23 rfl ?_
      refine V_callV (K' := 0) (S' := 0) 27 69 11 3 [.int 1, .int 2, .int 1] mkX11_may lkX11_216 (by decide) rfl rfl (by decide) rfl (Nat.le_of_ble_eq_true rfl) (Nat.le_of_ble_eq_true rfl) (Nat.le_of_ble_eq_true rfl) (Nat.le_of_ble_eq_true rfl) rfl rfl dX11_man_24 rfl (c_X11_may (cd := 2) (kd := 1) hRM (by decide) (by decide) (by decide) ht (fun _ => ?_) (fun e => absurd e (by decide)))
      refine Kq_i (k' := 0) (sl' := 0) rfl rfl ?_
      refine V_if_ne 32 30 rfl dX11_man_27 rfl (fun c27 => ?_) (fun c27 => absurd c27 (by decide))
      rw [nI_clamp (show h < 2 ^ 31 by omega)] at hq
      rw [nI_clamp (show j < 2 ^ 31 by omega)] at hq
      rcases (show j = 0 ∨ j = 1 ∨ j = 2 ∨ j = 3 ∨ j = 4 ∨ j = 5 ∨ j = 6 ∨ j = 7 by omega) with rfl | rfl | rfl | rfl | rfl | rfl | rfl | rfl
      · show V _ _ _ _ _ _ _ _ [(0, rf G 69), (1, .int (nI h)), (2, .int 0)] [] _ _ _ _ _
        refine V_iload_n 33 2 rfl rfl dX11_man_32 rfl ?_
        refine V_if_eq 42 36 rfl dX11_man_33 rfl (fun c33 => ?_) (fun c33 => absurd c33 (by decide))
        refine V_iload_n 43 2 rfl rfl dX11_man_42 rfl ?_
        refine V_if_ne 55 46 rfl dX11_man_43 rfl (fun c43 => absurd c43 (by decide)) (fun c43 => ?_)
        refine V_aload_n 47 0 rfl _ rfl rfl dX11_man_46 rfl ?_
        refine V_getR 50 69 11 16 78 (hRM 16) flX11_41 rfl rfl rfl (by decide) dX11_man_47 rfl ?_
        refine V_iload_n 51 1 rfl rfl dX11_man_50 rfl ?_
        refine V_ialdN 52 78 6 h (cBt K h) (hK.2.2.2.2.2.1 h (by assumption)) (by omega) (by decide) rfl (by decide) dX11_man_51 rfl ?_
        refine V_goto 61 rfl dX11_man_52 ?_
        refine V_ret_i rfl rfl (Nat.le_of_ble_eq_true rfl) (fun h => absurd h (by decide)) (Nat.le_of_ble_eq_true rfl) (hq I0 hz) dX11_man_61
      · show V _ _ _ _ _ _ _ _ [(0, rf G 69), (1, .int (nI h)), (2, .int 1)] [] _ _ _ _ _
        refine V_iload_n 33 2 rfl rfl dX11_man_32 rfl ?_
        refine V_if_eq 42 36 rfl dX11_man_33 rfl (fun c33 => absurd c33 (by decide)) (fun c33 => ?_)
        refine V_iload_n 37 2 rfl rfl dX11_man_36 rfl ?_
        refine V_bipush 39 (6) rfl dX11_man_37 rfl ?_
        refine V_icmp_ne 62 42 rfl dX11_man_39 rfl (fun c39 => ?_) (fun c39 => absurd c39 (by decide))
        refine V_aload_n 63 0 rfl _ rfl rfl dX11_man_62 rfl ?_
        refine V_getR 66 69 11 40 88 (hRM 40) flX11_71 rfl rfl rfl (by decide) dX11_man_63 rfl ?_
        refine V_iload_n 67 2 rfl rfl dX11_man_66 rfl ?_
        refine V_iconst 68 (1) rfl dX11_man_67 rfl ?_
        refine V_icmp_ne 76 71 rfl dX11_man_68 rfl (fun c68 => absurd c68 (by decide)) (fun c68 => ?_)
        refine V_bipush 73 (18) rfl dX11_man_71 rfl ?_
        refine V_goto 117 rfl dX11_man_73 ?_
        refine V_iload_n 118 1 rfl rfl dX11_man_117 rfl ?_
        refine V_iadd 119 dX11_man_118 rfl ?_
        refine V_rw (nI_add 18 h) ?_
        refine V_ialdN 120 88 51 (18 + h) (D (18 + h)) (hN ((18 + h)) (by omega)) (by omega) (by decide) rfl (by decide) dX11_man_119 rfl ?_
        refine V_ret_i rfl rfl (Nat.le_of_ble_eq_true rfl) (fun h => absurd h (by decide)) (Nat.le_of_ble_eq_true rfl) (hq I0 hz) dX11_man_120
      · show V _ _ _ _ _ _ _ _ [(0, rf G 69), (1, .int (nI h)), (2, .int 2)] [] _ _ _ _ _
        refine V_iload_n 33 2 rfl rfl dX11_man_32 rfl ?_
        refine V_if_eq 42 36 rfl dX11_man_33 rfl (fun c33 => absurd c33 (by decide)) (fun c33 => ?_)
        refine V_iload_n 37 2 rfl rfl dX11_man_36 rfl ?_
        refine V_bipush 39 (6) rfl dX11_man_37 rfl ?_
        refine V_icmp_ne 62 42 rfl dX11_man_39 rfl (fun c39 => ?_) (fun c39 => absurd c39 (by decide))
        refine V_aload_n 63 0 rfl _ rfl rfl dX11_man_62 rfl ?_
        refine V_getR 66 69 11 40 88 (hRM 40) flX11_71 rfl rfl rfl (by decide) dX11_man_63 rfl ?_
        refine V_iload_n 67 2 rfl rfl dX11_man_66 rfl ?_
        refine V_iconst 68 (1) rfl dX11_man_67 rfl ?_
        refine V_icmp_ne 76 71 rfl dX11_man_68 rfl (fun c68 => ?_) (fun c68 => absurd c68 (by decide))
        refine V_iload_n 77 2 rfl rfl dX11_man_76 rfl ?_
        refine V_iconst 78 (2) rfl dX11_man_77 rfl ?_
        refine V_icmp_ne 85 81 rfl dX11_man_78 rfl (fun c78 => absurd c78 (by decide)) (fun c78 => ?_)
        refine V_iconst 82 (0) rfl dX11_man_81 rfl ?_
        refine V_goto 117 rfl dX11_man_82 ?_
        refine V_iload_n 118 1 rfl rfl dX11_man_117 rfl ?_
        refine V_iadd 119 dX11_man_118 rfl ?_
        refine V_rw (nI_z _) ?_
        refine V_ialdN 120 88 51 h (D h) (hN (h) (by omega)) (by omega) (by decide) rfl (by decide) dX11_man_119 rfl ?_
        refine V_ret_i rfl rfl (Nat.le_of_ble_eq_true rfl) (fun h => absurd h (by decide)) (Nat.le_of_ble_eq_true rfl) (hq I0 hz) dX11_man_120
      · show V _ _ _ _ _ _ _ _ [(0, rf G 69), (1, .int (nI h)), (2, .int 3)] [] _ _ _ _ _
        refine V_iload_n 33 2 rfl rfl dX11_man_32 rfl ?_
        refine V_if_eq 42 36 rfl dX11_man_33 rfl (fun c33 => absurd c33 (by decide)) (fun c33 => ?_)
        refine V_iload_n 37 2 rfl rfl dX11_man_36 rfl ?_
        refine V_bipush 39 (6) rfl dX11_man_37 rfl ?_
        refine V_icmp_ne 62 42 rfl dX11_man_39 rfl (fun c39 => ?_) (fun c39 => absurd c39 (by decide))
        refine V_aload_n 63 0 rfl _ rfl rfl dX11_man_62 rfl ?_
        refine V_getR 66 69 11 40 88 (hRM 40) flX11_71 rfl rfl rfl (by decide) dX11_man_63 rfl ?_
        refine V_iload_n 67 2 rfl rfl dX11_man_66 rfl ?_
        refine V_iconst 68 (1) rfl dX11_man_67 rfl ?_
        refine V_icmp_ne 76 71 rfl dX11_man_68 rfl (fun c68 => ?_) (fun c68 => absurd c68 (by decide))
        refine V_iload_n 77 2 rfl rfl dX11_man_76 rfl ?_
        refine V_iconst 78 (2) rfl dX11_man_77 rfl ?_
        refine V_icmp_ne 85 81 rfl dX11_man_78 rfl (fun c78 => ?_) (fun c78 => absurd c78 (by decide))
        refine V_iload_n 86 2 rfl rfl dX11_man_85 rfl ?_
        refine V_iconst 87 (3) rfl dX11_man_86 rfl ?_
        refine V_icmp_ne 95 90 rfl dX11_man_87 rfl (fun c87 => absurd c87 (by decide)) (fun c87 => ?_)
        refine V_bipush 92 (6) rfl dX11_man_90 rfl ?_
        refine V_goto 117 rfl dX11_man_92 ?_
        refine V_iload_n 118 1 rfl rfl dX11_man_117 rfl ?_
        refine V_iadd 119 dX11_man_118 rfl ?_
        refine V_rw (nI_add 6 h) ?_
        refine V_ialdN 120 88 51 (6 + h) (D (6 + h)) (hN ((6 + h)) (by omega)) (by omega) (by decide) rfl (by decide) dX11_man_119 rfl ?_
        refine V_ret_i rfl rfl (Nat.le_of_ble_eq_true rfl) (fun h => absurd h (by decide)) (Nat.le_of_ble_eq_true rfl) (hq I0 hz) dX11_man_120
      · show V _ _ _ _ _ _ _ _ [(0, rf G 69), (1, .int (nI h)), (2, .int 4)] [] _ _ _ _ _
        refine V_iload_n 33 2 rfl rfl dX11_man_32 rfl ?_
        refine V_if_eq 42 36 rfl dX11_man_33 rfl (fun c33 => absurd c33 (by decide)) (fun c33 => ?_)
        refine V_iload_n 37 2 rfl rfl dX11_man_36 rfl ?_
        refine V_bipush 39 (6) rfl dX11_man_37 rfl ?_
        refine V_icmp_ne 62 42 rfl dX11_man_39 rfl (fun c39 => ?_) (fun c39 => absurd c39 (by decide))
        refine V_aload_n 63 0 rfl _ rfl rfl dX11_man_62 rfl ?_
        refine V_getR 66 69 11 40 88 (hRM 40) flX11_71 rfl rfl rfl (by decide) dX11_man_63 rfl ?_
        refine V_iload_n 67 2 rfl rfl dX11_man_66 rfl ?_
        refine V_iconst 68 (1) rfl dX11_man_67 rfl ?_
        refine V_icmp_ne 76 71 rfl dX11_man_68 rfl (fun c68 => ?_) (fun c68 => absurd c68 (by decide))
        refine V_iload_n 77 2 rfl rfl dX11_man_76 rfl ?_
        refine V_iconst 78 (2) rfl dX11_man_77 rfl ?_
        refine V_icmp_ne 85 81 rfl dX11_man_78 rfl (fun c78 => ?_) (fun c78 => absurd c78 (by decide))
        refine V_iload_n 86 2 rfl rfl dX11_man_85 rfl ?_
        refine V_iconst 87 (3) rfl dX11_man_86 rfl ?_
        refine V_icmp_ne 95 90 rfl dX11_man_87 rfl (fun c87 => ?_) (fun c87 => absurd c87 (by decide))
        refine V_iload_n 96 2 rfl rfl dX11_man_95 rfl ?_
        refine V_iconst 97 (4) rfl dX11_man_96 rfl ?_
        refine V_icmp_ne 105 100 rfl dX11_man_97 rfl (fun c97 => absurd c97 (by decide)) (fun c97 => ?_)
        refine V_bipush 102 (12) rfl dX11_man_100 rfl ?_
        refine V_goto 117 rfl dX11_man_102 ?_
        refine V_iload_n 118 1 rfl rfl dX11_man_117 rfl ?_
        refine V_iadd 119 dX11_man_118 rfl ?_
        refine V_rw (nI_add 12 h) ?_
        refine V_ialdN 120 88 51 (12 + h) (D (12 + h)) (hN ((12 + h)) (by omega)) (by omega) (by decide) rfl (by decide) dX11_man_119 rfl ?_
        refine V_ret_i rfl rfl (Nat.le_of_ble_eq_true rfl) (fun h => absurd h (by decide)) (Nat.le_of_ble_eq_true rfl) (hq I0 hz) dX11_man_120
      · show V _ _ _ _ _ _ _ _ [(0, rf G 69), (1, .int (nI h)), (2, .int 5)] [] _ _ _ _ _
        refine V_iload_n 33 2 rfl rfl dX11_man_32 rfl ?_
        refine V_if_eq 42 36 rfl dX11_man_33 rfl (fun c33 => absurd c33 (by decide)) (fun c33 => ?_)
        refine V_iload_n 37 2 rfl rfl dX11_man_36 rfl ?_
        refine V_bipush 39 (6) rfl dX11_man_37 rfl ?_
        refine V_icmp_ne 62 42 rfl dX11_man_39 rfl (fun c39 => ?_) (fun c39 => absurd c39 (by decide))
        refine V_aload_n 63 0 rfl _ rfl rfl dX11_man_62 rfl ?_
        refine V_getR 66 69 11 40 88 (hRM 40) flX11_71 rfl rfl rfl (by decide) dX11_man_63 rfl ?_
        refine V_iload_n 67 2 rfl rfl dX11_man_66 rfl ?_
        refine V_iconst 68 (1) rfl dX11_man_67 rfl ?_
        refine V_icmp_ne 76 71 rfl dX11_man_68 rfl (fun c68 => ?_) (fun c68 => absurd c68 (by decide))
        refine V_iload_n 77 2 rfl rfl dX11_man_76 rfl ?_
        refine V_iconst 78 (2) rfl dX11_man_77 rfl ?_
        refine V_icmp_ne 85 81 rfl dX11_man_78 rfl (fun c78 => ?_) (fun c78 => absurd c78 (by decide))
        refine V_iload_n 86 2 rfl rfl dX11_man_85 rfl ?_
        refine V_iconst 87 (3) rfl dX11_man_86 rfl ?_
        refine V_icmp_ne 95 90 rfl dX11_man_87 rfl (fun c87 => ?_) (fun c87 => absurd c87 (by decide))
        refine V_iload_n 96 2 rfl rfl dX11_man_95 rfl ?_
        refine V_iconst 97 (4) rfl dX11_man_96 rfl ?_
        refine V_icmp_ne 105 100 rfl dX11_man_97 rfl (fun c97 => ?_) (fun c97 => absurd c97 (by decide))
        refine V_iload_n 106 2 rfl rfl dX11_man_105 rfl ?_
        refine V_iconst 107 (5) rfl dX11_man_106 rfl ?_
        refine V_icmp_ne 115 110 rfl dX11_man_107 rfl (fun c107 => absurd c107 (by decide)) (fun c107 => ?_)
        refine V_bipush 112 (24) rfl dX11_man_110 rfl ?_
        refine V_goto 117 rfl dX11_man_112 ?_
        refine V_iload_n 118 1 rfl rfl dX11_man_117 rfl ?_
        refine V_iadd 119 dX11_man_118 rfl ?_
        refine V_rw (nI_add 24 h) ?_
        refine V_ialdN 120 88 51 (24 + h) (D (24 + h)) (hN ((24 + h)) (by omega)) (by omega) (by decide) rfl (by decide) dX11_man_119 rfl ?_
        refine V_ret_i rfl rfl (Nat.le_of_ble_eq_true rfl) (fun h => absurd h (by decide)) (Nat.le_of_ble_eq_true rfl) (hq I0 hz) dX11_man_120
      · show V _ _ _ _ _ _ _ _ [(0, rf G 69), (1, .int (nI h)), (2, .int 6)] [] _ _ _ _ _
        refine V_iload_n 33 2 rfl rfl dX11_man_32 rfl ?_
        refine V_if_eq 42 36 rfl dX11_man_33 rfl (fun c33 => absurd c33 (by decide)) (fun c33 => ?_)
        refine V_iload_n 37 2 rfl rfl dX11_man_36 rfl ?_
        refine V_bipush 39 (6) rfl dX11_man_37 rfl ?_
        refine V_icmp_ne 62 42 rfl dX11_man_39 rfl (fun c39 => absurd c39 (by decide)) (fun c39 => ?_)
        refine V_iload_n 43 2 rfl rfl dX11_man_42 rfl ?_
        refine V_if_ne 55 46 rfl dX11_man_43 rfl (fun c43 => ?_) (fun c43 => absurd c43 (by decide))
        refine V_aload_n 56 0 rfl _ rfl rfl dX11_man_55 rfl ?_
        refine V_getR 59 69 11 17 79 (hRM 17) flX11_44 rfl rfl rfl (by decide) dX11_man_56 rfl ?_
        refine V_iload_n 60 1 rfl rfl dX11_man_59 rfl ?_
        refine V_ialdN 61 79 6 h (oI (cHr K h)) (hK.2.2.2.2.2.2 h (by assumption)) (by omega) (by decide) rfl (by decide) dX11_man_60 rfl ?_
        refine V_ret_i rfl rfl (Nat.le_of_ble_eq_true rfl) (fun h => absurd h (by decide)) (Nat.le_of_ble_eq_true rfl) (hq I0 hz) dX11_man_61
      · show V _ _ _ _ _ _ _ _ [(0, rf G 69), (1, .int (nI h)), (2, .int 7)] [] _ _ _ _ _
        refine V_iload_n 33 2 rfl rfl dX11_man_32 rfl ?_
        refine V_if_eq 42 36 rfl dX11_man_33 rfl (fun c33 => absurd c33 (by decide)) (fun c33 => ?_)
        refine V_iload_n 37 2 rfl rfl dX11_man_36 rfl ?_
        refine V_bipush 39 (6) rfl dX11_man_37 rfl ?_
        refine V_icmp_ne 62 42 rfl dX11_man_39 rfl (fun c39 => ?_) (fun c39 => absurd c39 (by decide))
        refine V_aload_n 63 0 rfl _ rfl rfl dX11_man_62 rfl ?_
        refine V_getR 66 69 11 40 88 (hRM 40) flX11_71 rfl rfl rfl (by decide) dX11_man_63 rfl ?_
        refine V_iload_n 67 2 rfl rfl dX11_man_66 rfl ?_
        refine V_iconst 68 (1) rfl dX11_man_67 rfl ?_
        refine V_icmp_ne 76 71 rfl dX11_man_68 rfl (fun c68 => ?_) (fun c68 => absurd c68 (by decide))
        refine V_iload_n 77 2 rfl rfl dX11_man_76 rfl ?_
        refine V_iconst 78 (2) rfl dX11_man_77 rfl ?_
        refine V_icmp_ne 85 81 rfl dX11_man_78 rfl (fun c78 => ?_) (fun c78 => absurd c78 (by decide))
        refine V_iload_n 86 2 rfl rfl dX11_man_85 rfl ?_
        refine V_iconst 87 (3) rfl dX11_man_86 rfl ?_
        refine V_icmp_ne 95 90 rfl dX11_man_87 rfl (fun c87 => ?_) (fun c87 => absurd c87 (by decide))
        refine V_iload_n 96 2 rfl rfl dX11_man_95 rfl ?_
        refine V_iconst 97 (4) rfl dX11_man_96 rfl ?_
        refine V_icmp_ne 105 100 rfl dX11_man_97 rfl (fun c97 => ?_) (fun c97 => absurd c97 (by decide))
        refine V_iload_n 106 2 rfl rfl dX11_man_105 rfl ?_
        refine V_iconst 107 (5) rfl dX11_man_106 rfl ?_
        refine V_icmp_ne 115 110 rfl dX11_man_107 rfl (fun c107 => ?_) (fun c107 => absurd c107 (by decide))
        refine V_bipush 117 (30) rfl dX11_man_115 rfl ?_
        refine V_iload_n 118 1 rfl rfl dX11_man_117 rfl ?_
        refine V_iadd 119 dX11_man_118 rfl ?_
        refine V_rw (nI_add 30 h) ?_
        refine V_ialdN 120 88 51 (30 + h) (D (30 + h)) (hN ((30 + h)) (by omega)) (by omega) (by decide) rfl (by decide) dX11_man_119 rfl ?_
        refine V_ret_i rfl rfl (Nat.le_of_ble_eq_true rfl) (fun h => absurd h (by decide)) (Nat.le_of_ble_eq_true rfl) (hq I0 hz) dX11_man_120
    · refine Kq_i (k' := 0) (sl' := 0) rfl rfl ?_
      rw [ckW_n a19] at hq
      refine V_iconst 23 (2) rfl dX11_man_22 rfl ?_
      refine V_iconst 24 (1) rfl dX11_man_23 rfl ?_
      refine V_callV (K' := 0) (S' := 0) 27 69 11 3 [.int 0, .int 2, .int 1] mkX11_may lkX11_216 (by decide) rfl rfl (by decide) rfl (Nat.le_of_ble_eq_true rfl) (Nat.le_of_ble_eq_true rfl) (Nat.le_of_ble_eq_true rfl) (Nat.le_of_ble_eq_true rfl) rfl rfl dX11_man_24 rfl (c_X11_may (cd := 2) (kd := 1) hRM (by decide) (by decide) (by decide) ht (fun e => absurd rfl e) (fun _ => ?_))
      refine Kq_i (k' := 0) (sl' := 0) rfl rfl ?_
      refine V_if_ne 32 30 rfl dX11_man_27 rfl (fun c27 => absurd c27 (by decide)) (fun c27 => ?_)
      refine V_iconst 31 (0) rfl dX11_man_30 rfl ?_
      refine V_ret_i rfl rfl (Nat.le_of_ble_eq_true rfl) (fun h => absurd h (by decide)) (Nat.le_of_ble_eq_true rfl) (hq.x hI0 rfl) dX11_man_31
  · refine Kq_i (k' := 0) (sl' := 0) rfl rfl ?_
    rw [ckN_n (by omega) i8] at hq
    refine V_if_eq 30 14 rfl dX11_man_11 rfl (fun c11 => ?_) (fun c11 => absurd c11 (by decide))
    refine V_iconst 31 (0) rfl dX11_man_30 rfl ?_
    refine V_ret_i rfl rfl (Nat.le_of_ble_eq_true rfl) (fun h => absurd h (by decide)) (Nat.le_of_ble_eq_true rfl) (hq.x hI0 rfl) dX11_man_31
set_option maxHeartbeats 8000000 in
theorem c_X11_sea {G : Gx} {d : Nat} {I : FI} {R : FR} {J : FJ} {Q : Po} {K : CO} {f : DV → Int32} {D : DV} (hX : RM I R K f D) {x : Int32}  (hq : HoM I R J Q 1 (ckN x (cM K) (.inl (seaD K f D x.toNatClampNeg)))) : Cc G mX11_sea (d + 60) 0 0 [rf G 69, .int x] 103 I R J Q := by
  obtain ⟨I0, hI0⟩ : ∃ I0, I0 = up2 I 69 0 0 := ⟨_, rfl⟩
  have hz := FrM.z hI0
  obtain ⟨hRM, hK, hW, hN, hI, hL, hfR⟩ := hX.fr hz
  have ht : I0 69 0 = 0 := hz.2.1
  have h8 := hW.1
  have hg6 := hW.2.1
  have h6 := hW.2.2.1
  have hWD := hI.1
  have hFl := hI.1.1
  have hB := hI.2.2.1
  have hSt := hI.2.1
  show V _ _ _ _ _ _ _ _ [(0, rf G 69), (1, .int x)] [] _ _ _ _ _
  refine V_aload_n 1 0 rfl _ rfl rfl dX11_sea_0 rfl ?_
  refine V_iconst 2 (0) rfl dX11_sea_1 rfl ?_
  refine V_putI 5 69 11 0 flX11_3 rfl rfl rfl (by decide) rfl dX11_sea_2 rfl ?_
  rw [← hI0]
  refine V_aload_n 6 0 rfl _ rfl rfl dX11_sea_5 rfl ?_
  refine V_iload_n 7 1 rfl rfl dX11_sea_6 rfl ?_
  refine V_iconst 8 (1) rfl dX11_sea_7 rfl ?_
  refine V_callV (K' := 0) (S' := 0) 11 69 11 2 [.int x, .int 1] mkX11_isMan lkX11_404 (by decide) rfl rfl (by decide) rfl (Nat.le_of_ble_eq_true rfl) (Nat.le_of_ble_eq_true rfl) (Nat.le_of_ble_eq_true rfl) (Nat.le_of_ble_eq_true rfl) rfl rfl dX11_sea_8 rfl (c_X11_isMan (c := cM K) (cd := 1) hRM (by omega) hK.2.2.1 (by decide) (by decide) ht (fun i8 => ?_) (fun i8 => ?_))
  · refine Kq_i (k' := 0) (sl' := 0) rfl rfl ?_
    rw [ckN_y (by omega) i8] at hq
    obtain ⟨h, hh, rfl⟩ := i8
    refine V_if_ne 16 14 rfl dX11_sea_11 rfl (fun c11 => ?_) (fun c11 => absurd c11 (by decide))
    refine V_aload_n 17 0 rfl _ rfl rfl dX11_sea_16 rfl ?_
    refine V_callV (K' := 0) (S' := 0) 20 69 11 0 [] mkX11_take lkX11_323 (by decide) rfl rfl (by decide) rfl (Nat.le_of_ble_eq_true rfl) (Nat.le_of_ble_eq_true rfl) (Nat.le_of_ble_eq_true rfl) (Nat.le_of_ble_eq_true rfl) rfl rfl dX11_sea_17 rfl (c_X11_take hRM (fun I1 hT1 hT2 => ?_))
    refine Kq_v (k' := 0) (sl' := 0) rfl rfl ?_
    have hz1 := hz.go (fun a _ _ h3 _ _ => hT1 a h3)
    have hM : DayM I1 D := fun k hk => (hT2 k hk).trans (hN k hk)
    have hK1 := hK.frS (fun a _ _ h3 _ => hT1 a h3)
    have hL1 := hL.fr (I' := I1) (by rw [hT1 69 (by decide)]) (hT1 82 (by decide)) (hT1 83 (by decide))
    refine V_aload_n 21 0 rfl _ rfl rfl dX11_sea_20 rfl ?_
    refine V_iload_n 22 1 rfl rfl dX11_sea_21 rfl ?_
    rw [nI_clamp (show h < 2 ^ 31 by omega)] at hq
    refine V_callV (K' := 0) (S' := 0) 25 69 11 1 [.int (nI h)] mkX11_seaBy lkX11_380 (by decide) rfl rfl (by decide) rfl (Nat.le_of_ble_eq_true rfl) (Nat.le_of_ble_eq_true rfl) (Nat.le_of_ble_eq_true rfl) (Nat.le_of_ble_eq_true rfl) rfl rfl dX11_sea_22 rfl (c_X11_seaBy hRM hK1 hW hM hWD hB hL1 hh (fun I2 hI2 => ?_))
    refine Kq_i (k' := 0) (sl' := 0) rfl rfl ?_
    have hz2 := hz1.go (fun a q1 q2 _ _ _ => hI2 a q1 q2)
    refine V_ret_i rfl rfl (Nat.le_of_ble_eq_true rfl) (fun h => absurd h (by decide)) (Nat.le_of_ble_eq_true rfl) (hq I2 hz2) dX11_sea_25
  · refine Kq_i (k' := 0) (sl' := 0) rfl rfl ?_
    rw [ckN_n (by omega) i8] at hq
    refine V_if_ne 16 14 rfl dX11_sea_11 rfl (fun c11 => absurd c11 (by decide)) (fun c11 => ?_)
    refine V_iconst 15 (0) rfl dX11_sea_14 rfl ?_
    refine V_ret_i rfl rfl (Nat.le_of_ble_eq_true rfl) (fun h => absurd h (by decide)) (Nat.le_of_ble_eq_true rfl) (hq.x hI0 rfl) dX11_sea_15
set_option maxHeartbeats 8000000 in
theorem c_X11_would {G : Gx} {d : Nat} {I : FI} {R : FR} {J : FJ} {Q : Po} {K : CO} {f : DV → Int32} {D : DV} (hX : RM I R K f D) {x1 x2 x3 x4 x5 x6 x7 x8 : Int32}  (hq : HoM I R J Q 1 (ckW x1 1 21 (ckW x2 0 4 (ckW x3 0 999 (ckW x4 1 99 (ckW x5 0 999 (ckW x6 0 999 (ckW x7 0 5 (ckW x8 0 900 (.inl (f (f8 x1 x2 x3 x4 x5 x6 x7 x8)))))))))))) : Cc G mX11_would (d + 60) 0 0 [rf G 69, .int x1, .int x2, .int x3, .int x4, .int x5, .int x6, .int x7, .int x8] 103 I R J Q := by
  obtain ⟨I0, hI0⟩ : ∃ I0, I0 = up2 I 69 0 0 := ⟨_, rfl⟩
  have hz := FrM.z hI0
  obtain ⟨hRM, hK, hW, hN, hI, hL, hfR⟩ := hX.fr hz
  have ht : I0 69 0 = 0 := hz.2.1
  have h8 := hW.1
  have hg6 := hW.2.1
  have h6 := hW.2.2.1
  have hWD := hI.1
  have hFl := hI.1.1
  have hB := hI.2.2.1
  have hSt := hI.2.1
  show V _ _ _ _ _ _ _ _ [(0, rf G 69), (1, .int x1), (2, .int x2), (3, .int x3), (4, .int x4), (5, .int x5), (6, .int x6), (7, .int x7), (8, .int x8)] [] _ _ _ _ _
  refine V_aload_n 1 0 rfl _ rfl rfl dX11_would_0 rfl ?_
  refine V_iconst 2 (0) rfl dX11_would_1 rfl ?_
  refine V_putI 5 69 11 0 flX11_3 rfl rfl rfl (by decide) rfl dX11_would_2 rfl ?_
  rw [← hI0]
  refine V_aload_n 6 0 rfl _ rfl rfl dX11_would_5 rfl ?_
  refine V_iload_n 7 1 rfl rfl dX11_would_6 rfl ?_
  refine V_iconst 8 (1) rfl dX11_would_7 rfl ?_
  refine V_bipush 10 (21) rfl dX11_would_8 rfl ?_
  refine V_callS (K' := 0) (S' := 0) 13 3 [.int x1, .int 1, .int 21] mkX11_within lkX11_383 rfl (Nat.le_of_ble_eq_true rfl) (Nat.le_of_ble_eq_true rfl) (Nat.le_of_ble_eq_true rfl) (Nat.le_of_ble_eq_true rfl) rfl rfl dX11_would_10 rfl (c_X11_within (fun a10 b10 => ?_) (fun a10 => ?_))
  · refine Kq_i (k' := 0) (sl' := 0) rfl rfl ?_
    rw [ckW_y a10 b10] at hq
    refine V_if_eq 97 16 rfl dX11_would_13 rfl (fun c13 => absurd c13 (by decide)) (fun c13 => ?_)
    refine V_iload_n 17 2 rfl rfl dX11_would_16 rfl ?_
    refine V_iconst 18 (0) rfl dX11_would_17 rfl ?_
    refine V_iconst 19 (4) rfl dX11_would_18 rfl ?_
    refine V_callS (K' := 0) (S' := 0) 22 3 [.int x2, .int 0, .int 4] mkX11_within lkX11_383 rfl (Nat.le_of_ble_eq_true rfl) (Nat.le_of_ble_eq_true rfl) (Nat.le_of_ble_eq_true rfl) (Nat.le_of_ble_eq_true rfl) rfl rfl dX11_would_19 rfl (c_X11_within (fun a19 b19 => ?_) (fun a19 => ?_))
    · refine Kq_i (k' := 0) (sl' := 0) rfl rfl ?_
      rw [ckW_y a19 b19] at hq
      refine V_if_eq 97 25 rfl dX11_would_22 rfl (fun c22 => absurd c22 (by decide)) (fun c22 => ?_)
      refine V_iload_n 26 3 rfl rfl dX11_would_25 rfl ?_
      refine V_iconst 27 (0) rfl dX11_would_26 rfl ?_
      refine V_sipush 30 (999) rfl dX11_would_27 rfl ?_
      refine V_callS (K' := 0) (S' := 0) 33 3 [.int x3, .int 0, .int 999] mkX11_within lkX11_383 rfl (Nat.le_of_ble_eq_true rfl) (Nat.le_of_ble_eq_true rfl) (Nat.le_of_ble_eq_true rfl) (Nat.le_of_ble_eq_true rfl) rfl rfl dX11_would_30 rfl (c_X11_within (fun a30 b30 => ?_) (fun a30 => ?_))
      · refine Kq_i (k' := 0) (sl' := 0) rfl rfl ?_
        rw [ckW_y a30 b30] at hq
        refine V_if_eq 97 36 rfl dX11_would_33 rfl (fun c33 => absurd c33 (by decide)) (fun c33 => ?_)
        refine V_iload 38 4 rfl dX11_would_36 rfl ?_
        refine V_iconst 39 (1) rfl dX11_would_38 rfl ?_
        refine V_bipush 41 (99) rfl dX11_would_39 rfl ?_
        refine V_callS (K' := 0) (S' := 0) 44 3 [.int x4, .int 1, .int 99] mkX11_within lkX11_383 rfl (Nat.le_of_ble_eq_true rfl) (Nat.le_of_ble_eq_true rfl) (Nat.le_of_ble_eq_true rfl) (Nat.le_of_ble_eq_true rfl) rfl rfl dX11_would_41 rfl (c_X11_within (fun a41 b41 => ?_) (fun a41 => ?_))
        · refine Kq_i (k' := 0) (sl' := 0) rfl rfl ?_
          rw [ckW_y a41 b41] at hq
          refine V_if_eq 97 47 rfl dX11_would_44 rfl (fun c44 => absurd c44 (by decide)) (fun c44 => ?_)
          refine V_iload 49 5 rfl dX11_would_47 rfl ?_
          refine V_iconst 50 (0) rfl dX11_would_49 rfl ?_
          refine V_sipush 53 (999) rfl dX11_would_50 rfl ?_
          refine V_callS (K' := 0) (S' := 0) 56 3 [.int x5, .int 0, .int 999] mkX11_within lkX11_383 rfl (Nat.le_of_ble_eq_true rfl) (Nat.le_of_ble_eq_true rfl) (Nat.le_of_ble_eq_true rfl) (Nat.le_of_ble_eq_true rfl) rfl rfl dX11_would_53 rfl (c_X11_within (fun a53 b53 => ?_) (fun a53 => ?_))
          · refine Kq_i (k' := 0) (sl' := 0) rfl rfl ?_
            rw [ckW_y a53 b53] at hq
            refine V_if_eq 97 59 rfl dX11_would_56 rfl (fun c56 => absurd c56 (by decide)) (fun c56 => ?_)
            refine V_iload 61 6 rfl dX11_would_59 rfl ?_
            refine V_iconst 62 (0) rfl dX11_would_61 rfl ?_
            refine V_sipush 65 (999) rfl dX11_would_62 rfl ?_
            refine V_callS (K' := 0) (S' := 0) 68 3 [.int x6, .int 0, .int 999] mkX11_within lkX11_383 rfl (Nat.le_of_ble_eq_true rfl) (Nat.le_of_ble_eq_true rfl) (Nat.le_of_ble_eq_true rfl) (Nat.le_of_ble_eq_true rfl) rfl rfl dX11_would_65 rfl (c_X11_within (fun a65 b65 => ?_) (fun a65 => ?_))
            · refine Kq_i (k' := 0) (sl' := 0) rfl rfl ?_
              rw [ckW_y a65 b65] at hq
              refine V_if_eq 97 71 rfl dX11_would_68 rfl (fun c68 => absurd c68 (by decide)) (fun c68 => ?_)
              refine V_iload 73 7 rfl dX11_would_71 rfl ?_
              refine V_iconst 74 (0) rfl dX11_would_73 rfl ?_
              refine V_iconst 75 (5) rfl dX11_would_74 rfl ?_
              refine V_callS (K' := 0) (S' := 0) 78 3 [.int x7, .int 0, .int 5] mkX11_within lkX11_383 rfl (Nat.le_of_ble_eq_true rfl) (Nat.le_of_ble_eq_true rfl) (Nat.le_of_ble_eq_true rfl) (Nat.le_of_ble_eq_true rfl) rfl rfl dX11_would_75 rfl (c_X11_within (fun a75 b75 => ?_) (fun a75 => ?_))
              · refine Kq_i (k' := 0) (sl' := 0) rfl rfl ?_
                rw [ckW_y a75 b75] at hq
                refine V_if_eq 97 81 rfl dX11_would_78 rfl (fun c78 => absurd c78 (by decide)) (fun c78 => ?_)
                refine V_iload 83 8 rfl dX11_would_81 rfl ?_
                refine V_iconst 84 (0) rfl dX11_would_83 rfl ?_
                refine V_sipush 87 (900) rfl dX11_would_84 rfl ?_
                refine V_callS (K' := 0) (S' := 0) 90 3 [.int x8, .int 0, .int 900] mkX11_within lkX11_383 rfl (Nat.le_of_ble_eq_true rfl) (Nat.le_of_ble_eq_true rfl) (Nat.le_of_ble_eq_true rfl) (Nat.le_of_ble_eq_true rfl) rfl rfl dX11_would_87 rfl (c_X11_within (fun a87 b87 => ?_) (fun a87 => ?_))
                · refine Kq_i (k' := 0) (sl' := 0) rfl rfl ?_
                  rw [ckW_y a87 b87] at hq
                  refine V_if_eq 97 93 rfl dX11_would_90 rfl (fun c90 => absurd c90 (by decide)) (fun c90 => ?_)
                  refine V_iconst 94 (1) rfl dX11_would_93 rfl ?_
                  refine V_goto 98 rfl dX11_would_94 ?_
                  refine V_iconst 99 (1) rfl dX11_would_98 rfl ?_
                  refine V_iconst 100 (1) rfl dX11_would_99 rfl ?_
                  refine V_callV (K' := 0) (S' := 0) 103 69 11 3 [.int 1, .int 1, .int 1] mkX11_may lkX11_216 (by decide) rfl rfl (by decide) rfl (Nat.le_of_ble_eq_true rfl) (Nat.le_of_ble_eq_true rfl) (Nat.le_of_ble_eq_true rfl) (Nat.le_of_ble_eq_true rfl) rfl rfl dX11_would_100 rfl (c_X11_may (cd := 1) (kd := 1) hRM (by decide) (by decide) (by decide) ht (fun _ => ?_) (fun e => absurd e (by decide)))
                  refine Kq_i (k' := 0) (sl' := 0) rfl rfl ?_
                  refine V_if_ne 108 106 rfl dX11_would_103 rfl (fun c103 => ?_) (fun c103 => absurd c103 (by decide))
                  refine V_aload_n 109 0 rfl _ rfl rfl dX11_would_108 rfl ?_
                  refine V_iload_n 110 1 rfl rfl dX11_would_109 rfl ?_
                  refine V_iload_n 111 2 rfl rfl dX11_would_110 rfl ?_
                  refine V_iload_n 112 3 rfl rfl dX11_would_111 rfl ?_
                  refine V_iload 114 4 rfl dX11_would_112 rfl ?_
                  refine V_iload 116 5 rfl dX11_would_114 rfl ?_
                  refine V_iload 118 6 rfl dX11_would_116 rfl ?_
                  refine V_iload 120 7 rfl dX11_would_118 rfl ?_
                  refine V_iload 122 8 rfl dX11_would_120 rfl ?_
                  refine V_callV (K' := 0) (S' := 0) 125 69 11 8 [.int x1, .int x2, .int x3, .int x4, .int x5, .int x6, .int x7, .int x8] mkX11_seaOf lkX11_357 (by decide) rfl rfl (by decide) rfl (Nat.le_of_ble_eq_true rfl) (Nat.le_of_ble_eq_true rfl) (Nat.le_of_ble_eq_true rfl) (Nat.le_of_ble_eq_true rfl) rfl rfl dX11_would_122 rfl (c_X11_seaOf hRM hL (fun I2 hI2 => ?_))
                  refine Kq_i (k' := 0) (sl' := 0) rfl rfl ?_
                  have hz2 := hz.go (fun a q1 q2 _ _ _ => hI2 a q1 q2)
                  refine V_ret_i rfl rfl (Nat.le_of_ble_eq_true rfl) (fun h => absurd h (by decide)) (Nat.le_of_ble_eq_true rfl) (hq I2 hz2) dX11_would_125
                · refine Kq_i (k' := 0) (sl' := 0) rfl rfl ?_
                  rw [ckW_n a87] at hq
                  refine V_if_eq 97 93 rfl dX11_would_90 rfl (fun c90 => ?_) (fun c90 => absurd c90 (by decide))
                  refine V_iconst 98 (0) rfl dX11_would_97 rfl ?_
                  refine V_iconst 99 (1) rfl dX11_would_98 rfl ?_
                  refine V_iconst 100 (1) rfl dX11_would_99 rfl ?_
                  refine V_callV (K' := 0) (S' := 0) 103 69 11 3 [.int 0, .int 1, .int 1] mkX11_may lkX11_216 (by decide) rfl rfl (by decide) rfl (Nat.le_of_ble_eq_true rfl) (Nat.le_of_ble_eq_true rfl) (Nat.le_of_ble_eq_true rfl) (Nat.le_of_ble_eq_true rfl) rfl rfl dX11_would_100 rfl (c_X11_may (cd := 1) (kd := 1) hRM (by decide) (by decide) (by decide) ht (fun e => absurd rfl e) (fun _ => ?_))
                  refine Kq_i (k' := 0) (sl' := 0) rfl rfl ?_
                  refine V_if_ne 108 106 rfl dX11_would_103 rfl (fun c103 => absurd c103 (by decide)) (fun c103 => ?_)
                  refine V_iconst 107 (0) rfl dX11_would_106 rfl ?_
                  refine V_ret_i rfl rfl (Nat.le_of_ble_eq_true rfl) (fun h => absurd h (by decide)) (Nat.le_of_ble_eq_true rfl) (hq.x hI0 rfl) dX11_would_107
              · refine Kq_i (k' := 0) (sl' := 0) rfl rfl ?_
                rw [ckW_n a75] at hq
                refine V_if_eq 97 81 rfl dX11_would_78 rfl (fun c78 => ?_) (fun c78 => absurd c78 (by decide))
                refine V_iconst 98 (0) rfl dX11_would_97 rfl ?_
                refine V_iconst 99 (1) rfl dX11_would_98 rfl ?_
                refine V_iconst 100 (1) rfl dX11_would_99 rfl ?_
                refine V_callV (K' := 0) (S' := 0) 103 69 11 3 [.int 0, .int 1, .int 1] mkX11_may lkX11_216 (by decide) rfl rfl (by decide) rfl (Nat.le_of_ble_eq_true rfl) (Nat.le_of_ble_eq_true rfl) (Nat.le_of_ble_eq_true rfl) (Nat.le_of_ble_eq_true rfl) rfl rfl dX11_would_100 rfl (c_X11_may (cd := 1) (kd := 1) hRM (by decide) (by decide) (by decide) ht (fun e => absurd rfl e) (fun _ => ?_))
                refine Kq_i (k' := 0) (sl' := 0) rfl rfl ?_
                refine V_if_ne 108 106 rfl dX11_would_103 rfl (fun c103 => absurd c103 (by decide)) (fun c103 => ?_)
                refine V_iconst 107 (0) rfl dX11_would_106 rfl ?_
                refine V_ret_i rfl rfl (Nat.le_of_ble_eq_true rfl) (fun h => absurd h (by decide)) (Nat.le_of_ble_eq_true rfl) (hq.x hI0 rfl) dX11_would_107
            · refine Kq_i (k' := 0) (sl' := 0) rfl rfl ?_
              rw [ckW_n a65] at hq
              refine V_if_eq 97 71 rfl dX11_would_68 rfl (fun c68 => ?_) (fun c68 => absurd c68 (by decide))
              refine V_iconst 98 (0) rfl dX11_would_97 rfl ?_
              refine V_iconst 99 (1) rfl dX11_would_98 rfl ?_
              refine V_iconst 100 (1) rfl dX11_would_99 rfl ?_
              refine V_callV (K' := 0) (S' := 0) 103 69 11 3 [.int 0, .int 1, .int 1] mkX11_may lkX11_216 (by decide) rfl rfl (by decide) rfl (Nat.le_of_ble_eq_true rfl) (Nat.le_of_ble_eq_true rfl) (Nat.le_of_ble_eq_true rfl) (Nat.le_of_ble_eq_true rfl) rfl rfl dX11_would_100 rfl (c_X11_may (cd := 1) (kd := 1) hRM (by decide) (by decide) (by decide) ht (fun e => absurd rfl e) (fun _ => ?_))
              refine Kq_i (k' := 0) (sl' := 0) rfl rfl ?_
              refine V_if_ne 108 106 rfl dX11_would_103 rfl (fun c103 => absurd c103 (by decide)) (fun c103 => ?_)
              refine V_iconst 107 (0) rfl dX11_would_106 rfl ?_
              refine V_ret_i rfl rfl (Nat.le_of_ble_eq_true rfl) (fun h => absurd h (by decide)) (Nat.le_of_ble_eq_true rfl) (hq.x hI0 rfl) dX11_would_107
          · refine Kq_i (k' := 0) (sl' := 0) rfl rfl ?_
            rw [ckW_n a53] at hq
            refine V_if_eq 97 59 rfl dX11_would_56 rfl (fun c56 => ?_) (fun c56 => absurd c56 (by decide))
            refine V_iconst 98 (0) rfl dX11_would_97 rfl ?_
            refine V_iconst 99 (1) rfl dX11_would_98 rfl ?_
            refine V_iconst 100 (1) rfl dX11_would_99 rfl ?_
            refine V_callV (K' := 0) (S' := 0) 103 69 11 3 [.int 0, .int 1, .int 1] mkX11_may lkX11_216 (by decide) rfl rfl (by decide) rfl (Nat.le_of_ble_eq_true rfl) (Nat.le_of_ble_eq_true rfl) (Nat.le_of_ble_eq_true rfl) (Nat.le_of_ble_eq_true rfl) rfl rfl dX11_would_100 rfl (c_X11_may (cd := 1) (kd := 1) hRM (by decide) (by decide) (by decide) ht (fun e => absurd rfl e) (fun _ => ?_))
            refine Kq_i (k' := 0) (sl' := 0) rfl rfl ?_
            refine V_if_ne 108 106 rfl dX11_would_103 rfl (fun c103 => absurd c103 (by decide)) (fun c103 => ?_)
            refine V_iconst 107 (0) rfl dX11_would_106 rfl ?_
            refine V_ret_i rfl rfl (Nat.le_of_ble_eq_true rfl) (fun h => absurd h (by decide)) (Nat.le_of_ble_eq_true rfl) (hq.x hI0 rfl) dX11_would_107
        · refine Kq_i (k' := 0) (sl' := 0) rfl rfl ?_
          rw [ckW_n a41] at hq
          refine V_if_eq 97 47 rfl dX11_would_44 rfl (fun c44 => ?_) (fun c44 => absurd c44 (by decide))
          refine V_iconst 98 (0) rfl dX11_would_97 rfl ?_
          refine V_iconst 99 (1) rfl dX11_would_98 rfl ?_
          refine V_iconst 100 (1) rfl dX11_would_99 rfl ?_
          refine V_callV (K' := 0) (S' := 0) 103 69 11 3 [.int 0, .int 1, .int 1] mkX11_may lkX11_216 (by decide) rfl rfl (by decide) rfl (Nat.le_of_ble_eq_true rfl) (Nat.le_of_ble_eq_true rfl) (Nat.le_of_ble_eq_true rfl) (Nat.le_of_ble_eq_true rfl) rfl rfl dX11_would_100 rfl (c_X11_may (cd := 1) (kd := 1) hRM (by decide) (by decide) (by decide) ht (fun e => absurd rfl e) (fun _ => ?_))
          refine Kq_i (k' := 0) (sl' := 0) rfl rfl ?_
          refine V_if_ne 108 106 rfl dX11_would_103 rfl (fun c103 => absurd c103 (by decide)) (fun c103 => ?_)
          refine V_iconst 107 (0) rfl dX11_would_106 rfl ?_
          refine V_ret_i rfl rfl (Nat.le_of_ble_eq_true rfl) (fun h => absurd h (by decide)) (Nat.le_of_ble_eq_true rfl) (hq.x hI0 rfl) dX11_would_107
      · refine Kq_i (k' := 0) (sl' := 0) rfl rfl ?_
        rw [ckW_n a30] at hq
        refine V_if_eq 97 36 rfl dX11_would_33 rfl (fun c33 => ?_) (fun c33 => absurd c33 (by decide))
        refine V_iconst 98 (0) rfl dX11_would_97 rfl ?_
        refine V_iconst 99 (1) rfl dX11_would_98 rfl ?_
        refine V_iconst 100 (1) rfl dX11_would_99 rfl ?_
        refine V_callV (K' := 0) (S' := 0) 103 69 11 3 [.int 0, .int 1, .int 1] mkX11_may lkX11_216 (by decide) rfl rfl (by decide) rfl (Nat.le_of_ble_eq_true rfl) (Nat.le_of_ble_eq_true rfl) (Nat.le_of_ble_eq_true rfl) (Nat.le_of_ble_eq_true rfl) rfl rfl dX11_would_100 rfl (c_X11_may (cd := 1) (kd := 1) hRM (by decide) (by decide) (by decide) ht (fun e => absurd rfl e) (fun _ => ?_))
        refine Kq_i (k' := 0) (sl' := 0) rfl rfl ?_
        refine V_if_ne 108 106 rfl dX11_would_103 rfl (fun c103 => absurd c103 (by decide)) (fun c103 => ?_)
        refine V_iconst 107 (0) rfl dX11_would_106 rfl ?_
        refine V_ret_i rfl rfl (Nat.le_of_ble_eq_true rfl) (fun h => absurd h (by decide)) (Nat.le_of_ble_eq_true rfl) (hq.x hI0 rfl) dX11_would_107
    · refine Kq_i (k' := 0) (sl' := 0) rfl rfl ?_
      rw [ckW_n a19] at hq
      refine V_if_eq 97 25 rfl dX11_would_22 rfl (fun c22 => ?_) (fun c22 => absurd c22 (by decide))
      refine V_iconst 98 (0) rfl dX11_would_97 rfl ?_
      refine V_iconst 99 (1) rfl dX11_would_98 rfl ?_
      refine V_iconst 100 (1) rfl dX11_would_99 rfl ?_
      refine V_callV (K' := 0) (S' := 0) 103 69 11 3 [.int 0, .int 1, .int 1] mkX11_may lkX11_216 (by decide) rfl rfl (by decide) rfl (Nat.le_of_ble_eq_true rfl) (Nat.le_of_ble_eq_true rfl) (Nat.le_of_ble_eq_true rfl) (Nat.le_of_ble_eq_true rfl) rfl rfl dX11_would_100 rfl (c_X11_may (cd := 1) (kd := 1) hRM (by decide) (by decide) (by decide) ht (fun e => absurd rfl e) (fun _ => ?_))
      refine Kq_i (k' := 0) (sl' := 0) rfl rfl ?_
      refine V_if_ne 108 106 rfl dX11_would_103 rfl (fun c103 => absurd c103 (by decide)) (fun c103 => ?_)
      refine V_iconst 107 (0) rfl dX11_would_106 rfl ?_
      refine V_ret_i rfl rfl (Nat.le_of_ble_eq_true rfl) (fun h => absurd h (by decide)) (Nat.le_of_ble_eq_true rfl) (hq.x hI0 rfl) dX11_would_107
  · refine Kq_i (k' := 0) (sl' := 0) rfl rfl ?_
    rw [ckW_n a10] at hq
    refine V_if_eq 97 16 rfl dX11_would_13 rfl (fun c13 => ?_) (fun c13 => absurd c13 (by decide))
    refine V_iconst 98 (0) rfl dX11_would_97 rfl ?_
    refine V_iconst 99 (1) rfl dX11_would_98 rfl ?_
    refine V_iconst 100 (1) rfl dX11_would_99 rfl ?_
    refine V_callV (K' := 0) (S' := 0) 103 69 11 3 [.int 0, .int 1, .int 1] mkX11_may lkX11_216 (by decide) rfl rfl (by decide) rfl (Nat.le_of_ble_eq_true rfl) (Nat.le_of_ble_eq_true rfl) (Nat.le_of_ble_eq_true rfl) (Nat.le_of_ble_eq_true rfl) rfl rfl dX11_would_100 rfl (c_X11_may (cd := 1) (kd := 1) hRM (by decide) (by decide) (by decide) ht (fun e => absurd rfl e) (fun _ => ?_))
    refine Kq_i (k' := 0) (sl' := 0) rfl rfl ?_
    refine V_if_ne 108 106 rfl dX11_would_103 rfl (fun c103 => absurd c103 (by decide)) (fun c103 => ?_)
    refine V_iconst 107 (0) rfl dX11_would_106 rfl ?_
    refine V_ret_i rfl rfl (Nat.le_of_ble_eq_true rfl) (fun h => absurd h (by decide)) (Nat.le_of_ble_eq_true rfl) (hq.x hI0 rfl) dX11_would_107
