/-! ===== days copied ===== -/
theorem cp6 {f g : DV} {j : Nat} (h : j < 6) : va_cpy f g (0 : Int32).toNatClampNeg (0 : Int32).toNatClampNeg (6 : Int32).toNatClampNeg j = f j := sb_cpy0 (n := 6) h
theorem cp8 {f g : DV} {j : Nat} (h : j < 8) : va_cpy f g (0 : Int32).toNatClampNeg (0 : Int32).toNatClampNeg (8 : Int32).toNatClampNeg j = f j := sb_cpy0 (n := 8) h
set_option maxHeartbeats 8000000 in
theorem c_X3_become {G : Gx} {d : Nat} {I : FI} {R : FR} {J : FJ} {Q : Po} (hRK : RK R) {D : DV} (hD : DayC I 18 D) (hq : ∀ I', DayC I' 26 D → FrC I I' 26 → Q (.inl none) 103 I' R J) : Cc G mX3_become d 0 0 [rf G 26, rf G 18] 103 I R J Q := by
  show V _ _ _ _ _ _ _ _ [(0, rf G 26), (1, rf G 18)] [] _ _ _ _ _
  refine V_aload_n 1 1 rfl _ rfl rfl dX3_become_0 rfl ?_
  refine V_getR 4 18 3 0 19 (hRK 18 0 (by decide) (by decide) (by decide)) flX3_9 rfl rfl rfl (by decide) dX3_become_1 rfl ?_
  refine V_iconst 5 (0) rfl dX3_become_4 rfl ?_
  refine V_aload_n 6 0 rfl _ rfl rfl dX3_become_5 rfl ?_
  refine V_getR 9 26 3 0 27 (hRK 26 0 (by decide) (by decide) (by decide)) flX3_9 rfl rfl rfl (by decide) dX3_become_6 rfl ?_
  refine V_iconst 10 (0) rfl dX3_become_9 rfl ?_
  refine V_bipush 12 (6) rfl dX3_become_10 rfl ?_
  refine V_copy 15 19 27 6 6 lkX3_48 rfl rfl (by decide) (by decide) (by decide) (by decide) (by decide) (by decide) (by decide) (Nat.le_of_ble_eq_true rfl) dX3_become_12 rfl ?_
  refine V_aload_n 16 1 rfl _ rfl rfl dX3_become_15 rfl ?_
  refine V_getR 19 18 3 1 20 (hRK 18 1 (by decide) (by decide) (by decide)) flX3_15 rfl rfl rfl (by decide) dX3_become_16 rfl ?_
  refine V_iconst 20 (0) rfl dX3_become_19 rfl ?_
  refine V_aload_n 21 0 rfl _ rfl rfl dX3_become_20 rfl ?_
  refine V_getR 24 26 3 1 28 (hRK 26 1 (by decide) (by decide) (by decide)) flX3_15 rfl rfl rfl (by decide) dX3_become_21 rfl ?_
  refine V_iconst 25 (0) rfl dX3_become_24 rfl ?_
  refine V_bipush 27 (6) rfl dX3_become_25 rfl ?_
  refine V_copy 30 20 28 6 6 lkX3_48 rfl rfl (by decide) (by decide) (by decide) (by decide) (by decide) (by decide) (by decide) (Nat.le_of_ble_eq_true rfl) dX3_become_27 rfl ?_
  refine V_aload_n 31 1 rfl _ rfl rfl dX3_become_30 rfl ?_
  refine V_getR 34 18 3 2 21 (hRK 18 2 (by decide) (by decide) (by decide)) flX3_18 rfl rfl rfl (by decide) dX3_become_31 rfl ?_
  refine V_iconst 35 (0) rfl dX3_become_34 rfl ?_
  refine V_aload_n 36 0 rfl _ rfl rfl dX3_become_35 rfl ?_
  refine V_getR 39 26 3 2 29 (hRK 26 2 (by decide) (by decide) (by decide)) flX3_18 rfl rfl rfl (by decide) dX3_become_36 rfl ?_
  refine V_iconst 40 (0) rfl dX3_become_39 rfl ?_
  refine V_bipush 42 (6) rfl dX3_become_40 rfl ?_
  refine V_copy 45 21 29 6 6 lkX3_48 rfl rfl (by decide) (by decide) (by decide) (by decide) (by decide) (by decide) (by decide) (Nat.le_of_ble_eq_true rfl) dX3_become_42 rfl ?_
  refine V_aload_n 46 1 rfl _ rfl rfl dX3_become_45 rfl ?_
  refine V_getR 49 18 3 3 22 (hRK 18 3 (by decide) (by decide) (by decide)) flX3_21 rfl rfl rfl (by decide) dX3_become_46 rfl ?_
  refine V_iconst 50 (0) rfl dX3_become_49 rfl ?_
  refine V_aload_n 51 0 rfl _ rfl rfl dX3_become_50 rfl ?_
  refine V_getR 54 26 3 3 30 (hRK 26 3 (by decide) (by decide) (by decide)) flX3_21 rfl rfl rfl (by decide) dX3_become_51 rfl ?_
  refine V_iconst 55 (0) rfl dX3_become_54 rfl ?_
  refine V_bipush 57 (6) rfl dX3_become_55 rfl ?_
  refine V_copy 60 22 30 6 6 lkX3_48 rfl rfl (by decide) (by decide) (by decide) (by decide) (by decide) (by decide) (by decide) (Nat.le_of_ble_eq_true rfl) dX3_become_57 rfl ?_
  refine V_aload_n 61 1 rfl _ rfl rfl dX3_become_60 rfl ?_
  refine V_getR 64 18 3 4 23 (hRK 18 4 (by decide) (by decide) (by decide)) flX3_24 rfl rfl rfl (by decide) dX3_become_61 rfl ?_
  refine V_iconst 65 (0) rfl dX3_become_64 rfl ?_
  refine V_aload_n 66 0 rfl _ rfl rfl dX3_become_65 rfl ?_
  refine V_getR 69 26 3 4 31 (hRK 26 4 (by decide) (by decide) (by decide)) flX3_24 rfl rfl rfl (by decide) dX3_become_66 rfl ?_
  refine V_iconst 70 (0) rfl dX3_become_69 rfl ?_
  refine V_bipush 72 (6) rfl dX3_become_70 rfl ?_
  refine V_copy 75 23 31 6 6 lkX3_48 rfl rfl (by decide) (by decide) (by decide) (by decide) (by decide) (by decide) (by decide) (Nat.le_of_ble_eq_true rfl) dX3_become_72 rfl ?_
  refine V_aload_n 76 1 rfl _ rfl rfl dX3_become_75 rfl ?_
  refine V_getR 79 18 3 5 24 (hRK 18 5 (by decide) (by decide) (by decide)) flX3_27 rfl rfl rfl (by decide) dX3_become_76 rfl ?_
  refine V_iconst 80 (0) rfl dX3_become_79 rfl ?_
  refine V_aload_n 81 0 rfl _ rfl rfl dX3_become_80 rfl ?_
  refine V_getR 84 26 3 5 32 (hRK 26 5 (by decide) (by decide) (by decide)) flX3_27 rfl rfl rfl (by decide) dX3_become_81 rfl ?_
  refine V_iconst 85 (0) rfl dX3_become_84 rfl ?_
  refine V_bipush 87 (8) rfl dX3_become_85 rfl ?_
  refine V_copy 90 24 32 8 8 lkX3_48 rfl rfl (by decide) (by decide) (by decide) (by decide) (by decide) (by decide) (by decide) (Nat.le_of_ble_eq_true rfl) dX3_become_87 rfl ?_
  refine V_aload_n 91 1 rfl _ rfl rfl dX3_become_90 rfl ?_
  refine V_getR 94 18 3 6 25 (hRK 18 6 (by decide) (by decide) (by decide)) flX3_30 rfl rfl rfl (by decide) dX3_become_91 rfl ?_
  refine V_iconst 95 (0) rfl dX3_become_94 rfl ?_
  refine V_aload_n 96 0 rfl _ rfl rfl dX3_become_95 rfl ?_
  refine V_getR 99 26 3 6 33 (hRK 26 6 (by decide) (by decide) (by decide)) flX3_30 rfl rfl rfl (by decide) dX3_become_96 rfl ?_
  refine V_iconst 100 (0) rfl dX3_become_99 rfl ?_
  refine V_bipush 102 (6) rfl dX3_become_100 rfl ?_
  refine V_copy 105 25 33 6 6 lkX3_48 rfl rfl (by decide) (by decide) (by decide) (by decide) (by decide) (by decide) (by decide) (Nat.le_of_ble_eq_true rfl) dX3_become_102 rfl ?_
  refine V_aload_n 106 0 rfl _ rfl rfl dX3_become_105 rfl ?_
  refine V_aload_n 107 1 rfl _ rfl rfl dX3_become_106 rfl ?_
  refine V_getI 110 18 3 7 (D 50) hD.2.2.2.2.2.2.2.1 flX3_54 rfl rfl rfl (by decide) dX3_become_107 rfl ?_
  refine V_putI 113 26 3 7 flX3_54 rfl rfl rfl (by decide) rfl dX3_become_110 rfl ?_
  refine V_aload_n 114 0 rfl _ rfl rfl dX3_become_113 rfl ?_
  refine V_aload_n 115 1 rfl _ rfl rfl dX3_become_114 rfl ?_
  refine V_getI 118 18 3 8 (livB D 6) hD.2.2.2.2.2.2.2.2 flX3_60 rfl rfl rfl (by decide) dX3_become_115 rfl ?_
  refine V_putI 121 26 3 8 flX3_60 rfl rfl rfl (by decide) rfl dX3_become_118 rfl ?_
  refine V_ret_v rfl (Nat.le_of_ble_eq_true rfl) (fun h => absurd h (by decide)) (Nat.le_of_ble_eq_true rfl) (hq _ ⟨fun m hm => by rw [up2_n _ _ _ (by decide), up2_n _ _ _ (by decide), upA_n (by decide), upA_n (by decide), upA_n (by decide), upA_n (by decide), upA_n (by decide), upA_n (by decide), upA_s, cp6 hm]; exact hD.1 m hm, fun m hm => by rw [up2_n _ _ _ (by decide), up2_n _ _ _ (by decide), upA_n (by decide), upA_n (by decide), upA_n (by decide), upA_n (by decide), upA_n (by decide), upA_s, cp6 hm, upA_n (by decide)]; exact hD.2.1 m hm, fun m hm => by rw [up2_n _ _ _ (by decide), up2_n _ _ _ (by decide), upA_n (by decide), upA_n (by decide), upA_n (by decide), upA_n (by decide), upA_s, cp6 hm, upA_n (by decide), upA_n (by decide)]; exact hD.2.2.1 m hm, fun m hm => by rw [up2_n _ _ _ (by decide), up2_n _ _ _ (by decide), upA_n (by decide), upA_n (by decide), upA_n (by decide), upA_s, cp6 hm, upA_n (by decide), upA_n (by decide), upA_n (by decide)]; exact hD.2.2.2.1 m hm, fun m hm => by rw [up2_n _ _ _ (by decide), up2_n _ _ _ (by decide), upA_n (by decide), upA_n (by decide), upA_s, cp6 hm, upA_n (by decide), upA_n (by decide), upA_n (by decide), upA_n (by decide)]; exact hD.2.2.2.2.1 m hm, fun m hm => by rw [up2_n _ _ _ (by decide), up2_n _ _ _ (by decide), upA_n (by decide), upA_s, cp8 hm, upA_n (by decide), upA_n (by decide), upA_n (by decide), upA_n (by decide), upA_n (by decide)]; exact hD.2.2.2.2.2.1 m hm, fun m hm => by rw [up2_n _ _ _ (by decide), up2_n _ _ _ (by decide), upA_s, cp6 hm, upA_n (by decide), upA_n (by decide), upA_n (by decide), upA_n (by decide), upA_n (by decide), upA_n (by decide)]; exact hD.2.2.2.2.2.2.1 m hm, rfl, rfl⟩ (fun a ha => by rw [up2_n _ _ _ (by omega), up2_n _ _ _ (by omega), upA_n (by omega), upA_n (by omega), upA_n (by omega), upA_n (by omega), upA_n (by omega), upA_n (by omega), upA_n (by omega)])) dX3_become_121
