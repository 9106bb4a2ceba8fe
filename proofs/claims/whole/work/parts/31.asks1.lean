/-! ===== questions: told, hat, ground, man, sea, would ===== -/
def toldF (K : CO) (D : DV) (nb rs : Int32) (j : Nat) : Int32 := match j with
  | 0 => nI (cH K)
  | 1 => nI (cG K)
  | 2 => nI (cM K)
  | 3 => D 50
  | 4 => livB D 6
  | 5 => seaF D 6
  | 6 => wornF D 6
  | 7 => sumF D 44 6
  | 8 => sumF D 24 6
  | 9 => nb
  | _ => rs
def hatF (K : CO) (D : DV) (h j : Nat) : Int32 := match j with
  | 0 => cHat K (2 * h)
  | 1 => cHat K (2 * h + 1)
  | 2 => wearF D (nI h) 6 0
  | _ => D (36 + h)
def grF (K : CO) (D : DV) (g j : Nat) : Int32 := match j with
  | 0 => D (44 + g)
  | 1 => cGr K (2 * g + 1)
  | 2 => mAtF D (nI g) 6
  | _ => cGr K (2 * g)
def manF (K : CO) (D : DV) (m j : Nat) : Int32 := match j with
  | 0 => cBt K m
  | 1 => D (18 + m)
  | 2 => D m
  | 3 => D (6 + m)
  | 4 => D (12 + m)
  | 5 => D (24 + m)
  | 6 => oI (cHr K m)
  | _ => D (30 + m)
theorem clj {j n : Nat} (h : j ≤ n) (hn : n < 2 ^ 31) : (nI j).toNatClampNeg = j := nI_clamp (by omega)
set_option maxHeartbeats 8000000 in
theorem c_X10_told {G : Gx} {d : Nat} {I : FI} {R : FR} {J : FJ} {Q : Po} {c l b : Nat} {K : CO} {f : DV → Int32} {D : DV} (hX : RC I R c l b K f D) {x : Int32} {nb rs : Int32} (hnb : I b 2 = nb) (hrs : I 0 12 = rs) (hq : Ho I R J Q (ckW x 0 10 (.inl (toldF K D nb rs x.toNatClampNeg)))) : Cc G mX10_told (d + 60) 8 48 [rf G 0, .int x] 103 I R J Q := by
  obtain ⟨hRS, hc, hl, hb, hC, hW, hD, hI, hL⟩ := hX
  have hRK := hRS.K
  have hR3c : R 3 0 = some c := hRS 3 0 (by decide)
  have hR3l : R 3 1 = some l := hRS 3 1 (by decide)
  have hR32 : R 3 2 = some 16 := hRS 3 2 (by decide)
  have hR33 : R 3 3 = some 17 := hRS 3 3 (by decide)
  have h8 := hW.1
  have hg6 := hW.2.1
  have h6 := hW.2.2.1
  have hWD := hI.1
  have hFl := hI.1.1
  show V _ _ _ _ _ _ _ _ [(0, rf G 0), (1, .int x)] [] _ _ _ _ _
  refine V_aload_n 1 0 rfl _ rfl rfl dX10_told_0 rfl ?_
  refine V_iload_n 2 1 rfl rfl dX10_told_1 rfl ?_
  refine V_iconst 3 (0) rfl dX10_told_2 rfl ?_
  refine V_bipush 5 (10) rfl dX10_told_3 rfl ?_
  refine V_callV (K' := 1) (S' := 6) 8 0 10 3 [.int x, .int 0, .int 10] mkX10_needWithin lkX10_158 (by decide) rfl rfl (by decide) rfl (Nat.le_of_ble_eq_true rfl) (Nat.le_of_ble_eq_true rfl) (Nat.le_of_ble_eq_true rfl) (Nat.le_of_ble_eq_true rfl) rfl rfl dX10_told_5 rfl (c_X10_needWithin (fun a5 b5 => ?_) (fun a5 => by rw [ckW_n a5] at hq; exact hq _ rfl))
  refine Kq_v (k' := 1) (sl' := 6) rfl rfl ?_
  rw [ckW_y a5 b5] at hq
  obtain ⟨j, hj, rfl⟩ := in_nI (n := 10) (by decide) a5 b5
  rw [nI_clamp (show j < 2 ^ 31 by omega)] at hq
  rcases (show j = 0 ∨ j = 1 ∨ j = 2 ∨ j = 3 ∨ j = 4 ∨ j = 5 ∨ j = 6 ∨ j = 7 ∨ j = 8 ∨ j = 9 ∨ j = 10 by omega) with rfl | rfl | rfl | rfl | rfl | rfl | rfl | rfl | rfl | rfl | rfl
  · show V _ _ _ _ _ _ _ _ [(0, rf G 0), (1, .int 0)] [] _ _ _ _ _
    refine V_iload_n 9 1 rfl rfl dX10_told_8 rfl ?_
    refine V_tabIn (off := 55) 64 (by decide) (by decide) (by decide) rfl dX10_told_9 ?_
    refine V_aload_n 65 0 rfl _ rfl rfl dX10_told_64 rfl ?_
    refine V_getR 68 0 10 1 3 (hRS 0 1 (by decide)) flX10_19 rfl rfl rfl (by decide) dX10_told_65 rfl ?_
    refine V_getR 71 3 7 0 c hR3c flX10_85 rfl rfl rfl (by decide) dX10_told_68 rfl ?_
    refine V_getI 74 c 2 6 (nI (cH K)) hC.1 flX10_162 rfl (ly_c hc).1 rfl (by omega) dX10_told_71 rfl ?_
    refine V_ret_i rfl rfl (Nat.le_of_ble_eq_true rfl) (fun h => absurd h (by decide)) (Nat.le_of_ble_eq_true rfl) (hq I FrQ.rf) dX10_told_74
  · show V _ _ _ _ _ _ _ _ [(0, rf G 0), (1, .int 1)] [] _ _ _ _ _
    refine V_iload_n 9 1 rfl rfl dX10_told_8 rfl ?_
    refine V_tabIn (off := 66) 75 (by decide) (by decide) (by decide) rfl dX10_told_9 ?_
    refine V_aload_n 76 0 rfl _ rfl rfl dX10_told_75 rfl ?_
    refine V_getR 79 0 10 1 3 (hRS 0 1 (by decide)) flX10_19 rfl rfl rfl (by decide) dX10_told_76 rfl ?_
    refine V_getR 82 3 7 0 c hR3c flX10_85 rfl rfl rfl (by decide) dX10_told_79 rfl ?_
    refine V_getI 85 c 2 7 (nI (cG K)) hC.2.1 flX10_165 rfl (ly_c hc).1 rfl (by omega) dX10_told_82 rfl ?_
    refine V_ret_i rfl rfl (Nat.le_of_ble_eq_true rfl) (fun h => absurd h (by decide)) (Nat.le_of_ble_eq_true rfl) (hq I FrQ.rf) dX10_told_85
  · show V _ _ _ _ _ _ _ _ [(0, rf G 0), (1, .int 2)] [] _ _ _ _ _
    refine V_iload_n 9 1 rfl rfl dX10_told_8 rfl ?_
    refine V_tabIn (off := 77) 86 (by decide) (by decide) (by decide) rfl dX10_told_9 ?_
    refine V_aload_n 87 0 rfl _ rfl rfl dX10_told_86 rfl ?_
    refine V_getR 90 0 10 1 3 (hRS 0 1 (by decide)) flX10_19 rfl rfl rfl (by decide) dX10_told_87 rfl ?_
    refine V_getR 93 3 7 0 c hR3c flX10_85 rfl rfl rfl (by decide) dX10_told_90 rfl ?_
    refine V_getI 96 c 2 8 (nI (cM K)) hC.2.2.1 flX10_127 rfl (ly_c hc).1 rfl (by omega) dX10_told_93 rfl ?_
    refine V_ret_i rfl rfl (Nat.le_of_ble_eq_true rfl) (fun h => absurd h (by decide)) (Nat.le_of_ble_eq_true rfl) (hq I FrQ.rf) dX10_told_96
  · show V _ _ _ _ _ _ _ _ [(0, rf G 0), (1, .int 3)] [] _ _ _ _ _
    refine V_iload_n 9 1 rfl rfl dX10_told_8 rfl ?_
    refine V_tabIn (off := 88) 97 (by decide) (by decide) (by decide) rfl dX10_told_9 ?_
    refine V_aload_n 98 0 rfl _ rfl rfl dX10_told_97 rfl ?_
    refine V_getR 101 0 10 2 18 (hRS 0 2 (by decide)) flX10_26 rfl rfl rfl (by decide) dX10_told_98 rfl ?_
    refine V_getI 104 18 3 7 (D 50) hD.2.2.2.2.2.2.2.1 flX10_168 rfl rfl rfl (by decide) dX10_told_101 rfl ?_
    refine V_ret_i rfl rfl (Nat.le_of_ble_eq_true rfl) (fun h => absurd h (by decide)) (Nat.le_of_ble_eq_true rfl) (hq I FrQ.rf) dX10_told_104
  · show V _ _ _ _ _ _ _ _ [(0, rf G 0), (1, .int 4)] [] _ _ _ _ _
    refine V_iload_n 9 1 rfl rfl dX10_told_8 rfl ?_
    refine V_tabIn (off := 96) 105 (by decide) (by decide) (by decide) rfl dX10_told_9 ?_
    refine V_aload_n 106 0 rfl _ rfl rfl dX10_told_105 rfl ?_
    refine V_getR 109 0 10 2 18 (hRS 0 2 (by decide)) flX10_26 rfl rfl rfl (by decide) dX10_told_106 rfl ?_
    refine V_getI 112 18 3 8 (livB D 6) hD.2.2.2.2.2.2.2.2 flX10_171 rfl rfl rfl (by decide) dX10_told_109 rfl ?_
    refine V_ret_i rfl rfl (Nat.le_of_ble_eq_true rfl) (fun h => absurd h (by decide)) (Nat.le_of_ble_eq_true rfl) (hq I FrQ.rf) dX10_told_112
  · show V _ _ _ _ _ _ _ _ [(0, rf G 0), (1, .int 5)] [] _ _ _ _ _
    refine V_iload_n 9 1 rfl rfl dX10_told_8 rfl ?_
    refine V_tabIn (off := 104) 113 (by decide) (by decide) (by decide) rfl dX10_told_9 ?_
    refine V_aload_n 114 0 rfl _ rfl rfl dX10_told_113 rfl ?_
    refine V_getR 117 0 10 2 18 (hRS 0 2 (by decide)) flX10_26 rfl rfl rfl (by decide) dX10_told_114 rfl ?_
    refine V_callV (K' := 0) (S' := 0) 120 18 3 0 [] mkX3_menAtSea lkX10_174 (by decide) rfl rfl (by decide) rfl (Nat.le_of_ble_eq_true rfl) (Nat.le_of_ble_eq_true rfl) (Nat.le_of_ble_eq_true rfl) (Nat.le_of_ble_eq_true rfl) rfl rfl dX10_told_117 rfl (c_X3_menAtSea_18 hRK hD ?_)
    refine Kq_i (k' := 1) (sl' := 6) rfl rfl ?_
    refine V_ret_i rfl rfl (Nat.le_of_ble_eq_true rfl) (fun h => absurd h (by decide)) (Nat.le_of_ble_eq_true rfl) (hq I FrQ.rf) dX10_told_120
  · show V _ _ _ _ _ _ _ _ [(0, rf G 0), (1, .int 6)] [] _ _ _ _ _
    refine V_iload_n 9 1 rfl rfl dX10_told_8 rfl ?_
    refine V_tabIn (off := 112) 121 (by decide) (by decide) (by decide) rfl dX10_told_9 ?_
    refine V_aload_n 122 0 rfl _ rfl rfl dX10_told_121 rfl ?_
    refine V_getR 125 0 10 2 18 (hRS 0 2 (by decide)) flX10_26 rfl rfl rfl (by decide) dX10_told_122 rfl ?_
    refine V_callV (K' := 0) (S' := 0) 128 18 3 0 [] mkX3_hatsWorn lkX10_178 (by decide) rfl rfl (by decide) rfl (Nat.le_of_ble_eq_true rfl) (Nat.le_of_ble_eq_true rfl) (Nat.le_of_ble_eq_true rfl) (Nat.le_of_ble_eq_true rfl) rfl rfl dX10_told_125 rfl (c_X3_hatsWorn_18 hRK hD ?_)
    refine Kq_i (k' := 1) (sl' := 6) rfl rfl ?_
    refine V_ret_i rfl rfl (Nat.le_of_ble_eq_true rfl) (fun h => absurd h (by decide)) (Nat.le_of_ble_eq_true rfl) (hq I FrQ.rf) dX10_told_128
  · show V _ _ _ _ _ _ _ _ [(0, rf G 0), (1, .int 7)] [] _ _ _ _ _
    refine V_iload_n 9 1 rfl rfl dX10_told_8 rfl ?_
    refine V_tabIn (off := 120) 129 (by decide) (by decide) (by decide) rfl dX10_told_9 ?_
    refine V_aload_n 130 0 rfl _ rfl rfl dX10_told_129 rfl ?_
    refine V_getR 133 0 10 2 18 (hRS 0 2 (by decide)) flX10_26 rfl rfl rfl (by decide) dX10_told_130 rfl ?_
    refine V_callV (K' := 0) (S' := 0) 136 18 3 0 [] mkX3_fishLeft lkX10_181 (by decide) rfl rfl (by decide) rfl (Nat.le_of_ble_eq_true rfl) (Nat.le_of_ble_eq_true rfl) (Nat.le_of_ble_eq_true rfl) (Nat.le_of_ble_eq_true rfl) rfl rfl dX10_told_133 rfl (c_X3_fishLeft_18 hRK hD ?_)
    refine Kq_i (k' := 1) (sl' := 6) rfl rfl ?_
    refine V_ret_i rfl rfl (Nat.le_of_ble_eq_true rfl) (fun h => absurd h (by decide)) (Nat.le_of_ble_eq_true rfl) (hq I FrQ.rf) dX10_told_136
  · show V _ _ _ _ _ _ _ _ [(0, rf G 0), (1, .int 8)] [] _ _ _ _ _
    refine V_iload_n 9 1 rfl rfl dX10_told_8 rfl ?_
    refine V_tabIn (off := 128) 137 (by decide) (by decide) (by decide) rfl dX10_told_9 ?_
    refine V_aload_n 138 0 rfl _ rfl rfl dX10_told_137 rfl ?_
    refine V_getR 141 0 10 2 18 (hRS 0 2 (by decide)) flX10_26 rfl rfl rfl (by decide) dX10_told_138 rfl ?_
    refine V_callV (K' := 0) (S' := 0) 144 18 3 0 [] mkX3_fishLanded lkX10_184 (by decide) rfl rfl (by decide) rfl (Nat.le_of_ble_eq_true rfl) (Nat.le_of_ble_eq_true rfl) (Nat.le_of_ble_eq_true rfl) (Nat.le_of_ble_eq_true rfl) rfl rfl dX10_told_141 rfl (c_X3_fishLanded_18 hRK hD ?_)
    refine Kq_i (k' := 1) (sl' := 6) rfl rfl ?_
    refine V_ret_i rfl rfl (Nat.le_of_ble_eq_true rfl) (fun h => absurd h (by decide)) (Nat.le_of_ble_eq_true rfl) (hq I FrQ.rf) dX10_told_144
  · show V _ _ _ _ _ _ _ _ [(0, rf G 0), (1, .int 9)] [] _ _ _ _ _
    refine V_iload_n 9 1 rfl rfl dX10_told_8 rfl ?_
    refine V_tabIn (off := 136) 145 (by decide) (by decide) (by decide) rfl dX10_told_9 ?_
    refine V_aload_n 146 0 rfl _ rfl rfl dX10_told_145 rfl ?_
    refine V_getR 149 0 10 10 b (hRS 0 10 (by decide)) flX10_78 rfl rfl rfl (by decide) dX10_told_146 rfl ?_
    refine V_getI 152 b 1 2 nb hnb flX10_120 rfl (ly_b hb).1 rfl (by omega) dX10_told_149 rfl ?_
    refine V_ret_i rfl rfl (Nat.le_of_ble_eq_true rfl) (fun h => absurd h (by decide)) (Nat.le_of_ble_eq_true rfl) (hq I FrQ.rf) dX10_told_152
  · show V _ _ _ _ _ _ _ _ [(0, rf G 0), (1, .int 10)] [] _ _ _ _ _
    refine V_iload_n 9 1 rfl rfl dX10_told_8 rfl ?_
    refine V_tabOut 153 (by decide) rfl dX10_told_9 ?_
    refine V_aload_n 154 0 rfl _ rfl rfl dX10_told_153 rfl ?_
    refine V_getI 157 0 10 12 rs hrs flX10_124 rfl rfl rfl (by decide) dX10_told_154 rfl ?_
    refine V_ret_i rfl rfl (Nat.le_of_ble_eq_true rfl) (fun h => absurd h (by decide)) (Nat.le_of_ble_eq_true rfl) (hq I FrQ.rf) dX10_told_157
set_option maxHeartbeats 8000000 in
theorem c_X10_hat {G : Gx} {d : Nat} {I : FI} {R : FR} {J : FJ} {Q : Po} {c l b : Nat} {K : CO} {f : DV → Int32} {D : DV} (hX : RC I R c l b K f D) {x y : Int32}  (hq : Ho I R J Q (ckN x (cH K) (ckW y 0 3 (.inl (hatF K D x.toNatClampNeg y.toNatClampNeg))))) : Cc G mX10_hat (d + 60) 8 48 [rf G 0, .int x, .int y] 103 I R J Q := by
  obtain ⟨hRS, hc, hl, hb, hC, hW, hD, hI, hL⟩ := hX
  have hRK := hRS.K
  have hR3c : R 3 0 = some c := hRS 3 0 (by decide)
  have hR3l : R 3 1 = some l := hRS 3 1 (by decide)
  have hR32 : R 3 2 = some 16 := hRS 3 2 (by decide)
  have hR33 : R 3 3 = some 17 := hRS 3 3 (by decide)
  have h8 := hW.1
  have hg6 := hW.2.1
  have h6 := hW.2.2.1
  have hWD := hI.1
  have hFl := hI.1.1
  show V _ _ _ _ _ _ _ _ [(0, rf G 0), (1, .int x), (2, .int y)] [] _ _ _ _ _
  refine V_aload_n 1 0 rfl _ rfl rfl dX10_hat_0 rfl ?_
  refine V_iload_n 2 1 rfl rfl dX10_hat_1 rfl ?_
  refine V_aload_n 3 0 rfl _ rfl rfl dX10_hat_2 rfl ?_
  refine V_getR 6 0 10 1 3 (hRS 0 1 (by decide)) flX10_19 rfl rfl rfl (by decide) dX10_hat_3 rfl ?_
  refine V_getR 9 3 7 0 c hR3c flX10_85 rfl rfl rfl (by decide) dX10_hat_6 rfl ?_
  refine V_getI 12 c 2 6 (nI (cH K)) hC.1 flX10_162 rfl (ly_c hc).1 rfl (by omega) dX10_hat_9 rfl ?_
  refine V_callV (K' := 1) (S' := 6) 15 0 10 2 [.int x, .int (nI (cH K))] mkX10_needOneOf lkX10_187 (by decide) rfl rfl (by decide) rfl (Nat.le_of_ble_eq_true rfl) (Nat.le_of_ble_eq_true rfl) (Nat.le_of_ble_eq_true rfl) (Nat.le_of_ble_eq_true rfl) rfl rfl dX10_hat_12 rfl (c_X10_needOneOf (c := cH K) (by omega) (fun i12 => ?_) (fun i12 => by rw [ckN_n (by omega) i12] at hq; exact hq _ rfl))
  refine Kq_v (k' := 1) (sl' := 6) rfl rfl ?_
  rw [ckN_y (by omega) i12] at hq
  obtain ⟨h, hh, rfl⟩ := i12
  refine V_aload_n 16 0 rfl _ rfl rfl dX10_hat_15 rfl ?_
  refine V_iload_n 17 2 rfl rfl dX10_hat_16 rfl ?_
  refine V_iconst 18 (0) rfl dX10_hat_17 rfl ?_
  refine V_iconst 19 (3) rfl dX10_hat_18 rfl ?_
  refine V_callV (K' := 1) (S' := 6) 22 0 10 3 [.int y, .int 0, .int 3] mkX10_needWithin lkX10_158 (by decide) rfl rfl (by decide) rfl (Nat.le_of_ble_eq_true rfl) (Nat.le_of_ble_eq_true rfl) (Nat.le_of_ble_eq_true rfl) (Nat.le_of_ble_eq_true rfl) rfl rfl dX10_hat_19 rfl (c_X10_needWithin (fun a19 b19 => ?_) (fun a19 => by rw [ckW_n a19] at hq; exact hq _ rfl))
  refine Kq_v (k' := 2) (sl' := 12) rfl rfl ?_
  rw [ckW_y a19 b19] at hq
  obtain ⟨j, hj, rfl⟩ := in_nI (n := 3) (by decide) a19 b19
  rw [nI_clamp (show h < 2 ^ 31 by omega)] at hq
  rw [nI_clamp (show j < 2 ^ 31 by omega)] at hq
  rcases (show j = 0 ∨ j = 1 ∨ j = 2 ∨ j = 3 by omega) with rfl | rfl | rfl | rfl
  · show V _ _ _ _ _ _ _ _ [(0, rf G 0), (1, .int (nI h)), (2, .int 0)] [] _ _ _ _ _
    refine V_iload_n 23 2 rfl rfl dX10_hat_22 rfl ?_
    refine V_tabIn (off := 25) 48 (by decide) (by decide) (by decide) rfl dX10_hat_23 ?_
    refine V_aload_n 49 0 rfl _ rfl rfl dX10_hat_48 rfl ?_
    refine V_getR 52 0 10 1 3 (hRS 0 1 (by decide)) flX10_19 rfl rfl rfl (by decide) dX10_hat_49 rfl ?_
    refine V_getR 55 3 7 0 c hR3c flX10_85 rfl rfl rfl (by decide) dX10_hat_52 rfl ?_
    refine V_getR 58 c 2 0 (c + 1) (rk_c0 hRK hc) flX10_190 rfl (ly_c hc).1 rfl (by omega) dX10_hat_55 rfl ?_
    refine V_iload_n 59 1 rfl rfl dX10_hat_58 rfl ?_
    refine V_ialdN 60 (c + 1) 8 h (cHat K (2 * h)) (hC.2.2.2.1 h (by assumption)) (by omega) (by decide) (ly_c hc).2.1 (by omega) dX10_hat_59 rfl ?_
    refine V_ret_i rfl rfl (Nat.le_of_ble_eq_true rfl) (fun h => absurd h (by decide)) (Nat.le_of_ble_eq_true rfl) (hq I FrQ.rf) dX10_hat_60
  · show V _ _ _ _ _ _ _ _ [(0, rf G 0), (1, .int (nI h)), (2, .int 1)] [] _ _ _ _ _
    refine V_iload_n 23 2 rfl rfl dX10_hat_22 rfl ?_
    refine V_tabIn (off := 38) 61 (by decide) (by decide) (by decide) rfl dX10_hat_23 ?_
    refine V_aload_n 62 0 rfl _ rfl rfl dX10_hat_61 rfl ?_
    refine V_getR 65 0 10 1 3 (hRS 0 1 (by decide)) flX10_19 rfl rfl rfl (by decide) dX10_hat_62 rfl ?_
    refine V_getR 68 3 7 0 c hR3c flX10_85 rfl rfl rfl (by decide) dX10_hat_65 rfl ?_
    refine V_getR 71 c 2 1 (c + 2) (rk_c1 hRK hc) flX10_194 rfl (ly_c hc).1 rfl (by omega) dX10_hat_68 rfl ?_
    refine V_iload_n 72 1 rfl rfl dX10_hat_71 rfl ?_
    refine V_ialdN 73 (c + 2) 8 h (cHat K (2 * h + 1)) (hC.2.2.2.2.1 h (by assumption)) (by omega) (by decide) (ly_c hc).2.2.1 (by omega) dX10_hat_72 rfl ?_
    refine V_ret_i rfl rfl (Nat.le_of_ble_eq_true rfl) (fun h => absurd h (by decide)) (Nat.le_of_ble_eq_true rfl) (hq I FrQ.rf) dX10_hat_73
  · show V _ _ _ _ _ _ _ _ [(0, rf G 0), (1, .int (nI h)), (2, .int 2)] [] _ _ _ _ _
    refine V_iload_n 23 2 rfl rfl dX10_hat_22 rfl ?_
    refine V_tabIn (off := 51) 74 (by decide) (by decide) (by decide) rfl dX10_hat_23 ?_
    refine V_aload_n 75 0 rfl _ rfl rfl dX10_hat_74 rfl ?_
    refine V_getR 78 0 10 2 18 (hRS 0 2 (by decide)) flX10_26 rfl rfl rfl (by decide) dX10_hat_75 rfl ?_
    refine V_iload_n 79 1 rfl rfl dX10_hat_78 rfl ?_
    refine V_callV (K' := 0) (S' := 0) 82 18 3 1 [.int (nI h)] mkX3_wearerOf lkX10_197 (by decide) rfl rfl (by decide) rfl (Nat.le_of_ble_eq_true rfl) (Nat.le_of_ble_eq_true rfl) (Nat.le_of_ble_eq_true rfl) (Nat.le_of_ble_eq_true rfl) rfl rfl dX10_hat_79 rfl (c_X3_wearerOf_18 hRK hD ?_)
    refine Kq_i (k' := 2) (sl' := 12) rfl rfl ?_
    refine V_ret_i rfl rfl (Nat.le_of_ble_eq_true rfl) (fun h => absurd h (by decide)) (Nat.le_of_ble_eq_true rfl) (hq I FrQ.rf) dX10_hat_82
  · show V _ _ _ _ _ _ _ _ [(0, rf G 0), (1, .int (nI h)), (2, .int 3)] [] _ _ _ _ _
    refine V_iload_n 23 2 rfl rfl dX10_hat_22 rfl ?_
    refine V_tabOut 83 (by decide) rfl dX10_hat_23 ?_
    refine V_aload_n 84 0 rfl _ rfl rfl dX10_hat_83 rfl ?_
    refine V_getR 87 0 10 2 18 (hRS 0 2 (by decide)) flX10_26 rfl rfl rfl (by decide) dX10_hat_84 rfl ?_
    refine V_getR 90 18 3 5 24 (hRK 18 5 (by decide) (by decide) (by decide)) flX10_201 rfl rfl rfl (by decide) dX10_hat_87 rfl ?_
    refine V_iload_n 91 1 rfl rfl dX10_hat_90 rfl ?_
    refine V_ialdN 92 24 8 h (D (36 + h)) (hD.2.2.2.2.2.1 h (by omega)) (by omega) (by decide) rfl (by decide) dX10_hat_91 rfl ?_
    refine V_ret_i rfl rfl (Nat.le_of_ble_eq_true rfl) (fun h => absurd h (by decide)) (Nat.le_of_ble_eq_true rfl) (hq I FrQ.rf) dX10_hat_92
set_option maxHeartbeats 8000000 in
theorem c_X10_ground {G : Gx} {d : Nat} {I : FI} {R : FR} {J : FJ} {Q : Po} {c l b : Nat} {K : CO} {f : DV → Int32} {D : DV} (hX : RC I R c l b K f D) {x y : Int32}  (hq : Ho I R J Q (ckN x (cG K) (ckW y 0 3 (.inl (grF K D x.toNatClampNeg y.toNatClampNeg))))) : Cc G mX10_ground (d + 60) 8 48 [rf G 0, .int x, .int y] 103 I R J Q := by
  obtain ⟨hRS, hc, hl, hb, hC, hW, hD, hI, hL⟩ := hX
  have hRK := hRS.K
  have hR3c : R 3 0 = some c := hRS 3 0 (by decide)
  have hR3l : R 3 1 = some l := hRS 3 1 (by decide)
  have hR32 : R 3 2 = some 16 := hRS 3 2 (by decide)
  have hR33 : R 3 3 = some 17 := hRS 3 3 (by decide)
  have h8 := hW.1
  have hg6 := hW.2.1
  have h6 := hW.2.2.1
  have hWD := hI.1
  have hFl := hI.1.1
  show V _ _ _ _ _ _ _ _ [(0, rf G 0), (1, .int x), (2, .int y)] [] _ _ _ _ _
  refine V_aload_n 1 0 rfl _ rfl rfl dX10_ground_0 rfl ?_
  refine V_iload_n 2 1 rfl rfl dX10_ground_1 rfl ?_
  refine V_aload_n 3 0 rfl _ rfl rfl dX10_ground_2 rfl ?_
  refine V_getR 6 0 10 1 3 (hRS 0 1 (by decide)) flX10_19 rfl rfl rfl (by decide) dX10_ground_3 rfl ?_
  refine V_getR 9 3 7 0 c hR3c flX10_85 rfl rfl rfl (by decide) dX10_ground_6 rfl ?_
  refine V_getI 12 c 2 7 (nI (cG K)) hC.2.1 flX10_165 rfl (ly_c hc).1 rfl (by omega) dX10_ground_9 rfl ?_
  refine V_callV (K' := 1) (S' := 6) 15 0 10 2 [.int x, .int (nI (cG K))] mkX10_needOneOf lkX10_187 (by decide) rfl rfl (by decide) rfl (Nat.le_of_ble_eq_true rfl) (Nat.le_of_ble_eq_true rfl) (Nat.le_of_ble_eq_true rfl) (Nat.le_of_ble_eq_true rfl) rfl rfl dX10_ground_12 rfl (c_X10_needOneOf (c := cG K) (by omega) (fun i12 => ?_) (fun i12 => by rw [ckN_n (by omega) i12] at hq; exact hq _ rfl))
  refine Kq_v (k' := 1) (sl' := 6) rfl rfl ?_
  rw [ckN_y (by omega) i12] at hq
  obtain ⟨h, hh, rfl⟩ := i12
  refine V_aload_n 16 0 rfl _ rfl rfl dX10_ground_15 rfl ?_
  refine V_iload_n 17 2 rfl rfl dX10_ground_16 rfl ?_
  refine V_iconst 18 (0) rfl dX10_ground_17 rfl ?_
  refine V_iconst 19 (3) rfl dX10_ground_18 rfl ?_
  refine V_callV (K' := 1) (S' := 6) 22 0 10 3 [.int y, .int 0, .int 3] mkX10_needWithin lkX10_158 (by decide) rfl rfl (by decide) rfl (Nat.le_of_ble_eq_true rfl) (Nat.le_of_ble_eq_true rfl) (Nat.le_of_ble_eq_true rfl) (Nat.le_of_ble_eq_true rfl) rfl rfl dX10_ground_19 rfl (c_X10_needWithin (fun a19 b19 => ?_) (fun a19 => by rw [ckW_n a19] at hq; exact hq _ rfl))
  refine Kq_v (k' := 2) (sl' := 12) rfl rfl ?_
  rw [ckW_y a19 b19] at hq
  obtain ⟨j, hj, rfl⟩ := in_nI (n := 3) (by decide) a19 b19
  rw [nI_clamp (show h < 2 ^ 31 by omega)] at hq
  rw [nI_clamp (show j < 2 ^ 31 by omega)] at hq
  rcases (show j = 0 ∨ j = 1 ∨ j = 2 ∨ j = 3 by omega) with rfl | rfl | rfl | rfl
  · show V _ _ _ _ _ _ _ _ [(0, rf G 0), (1, .int (nI h)), (2, .int 0)] [] _ _ _ _ _
    refine V_iload_n 23 2 rfl rfl dX10_ground_22 rfl ?_
    refine V_tabIn (off := 25) 48 (by decide) (by decide) (by decide) rfl dX10_ground_23 ?_
    refine V_aload_n 49 0 rfl _ rfl rfl dX10_ground_48 rfl ?_
    refine V_getR 52 0 10 2 18 (hRS 0 2 (by decide)) flX10_26 rfl rfl rfl (by decide) dX10_ground_49 rfl ?_
    refine V_getR 55 18 3 6 25 (hRK 18 6 (by decide) (by decide) (by decide)) flX10_204 rfl rfl rfl (by decide) dX10_ground_52 rfl ?_
    refine V_iload_n 56 1 rfl rfl dX10_ground_55 rfl ?_
    refine V_ialdN 57 25 6 h (D (44 + h)) (hD.2.2.2.2.2.2.1 h (by omega)) (by omega) (by decide) rfl (by decide) dX10_ground_56 rfl ?_
    refine V_ret_i rfl rfl (Nat.le_of_ble_eq_true rfl) (fun h => absurd h (by decide)) (Nat.le_of_ble_eq_true rfl) (hq I FrQ.rf) dX10_ground_57
  · show V _ _ _ _ _ _ _ _ [(0, rf G 0), (1, .int (nI h)), (2, .int 1)] [] _ _ _ _ _
    refine V_iload_n 23 2 rfl rfl dX10_ground_22 rfl ?_
    refine V_tabIn (off := 35) 58 (by decide) (by decide) (by decide) rfl dX10_ground_23 ?_
    refine V_aload_n 59 0 rfl _ rfl rfl dX10_ground_58 rfl ?_
    refine V_getR 62 0 10 1 3 (hRS 0 1 (by decide)) flX10_19 rfl rfl rfl (by decide) dX10_ground_59 rfl ?_
    refine V_getR 65 3 7 0 c hR3c flX10_85 rfl rfl rfl (by decide) dX10_ground_62 rfl ?_
    refine V_getR 68 c 2 3 (c + 4) (rk_c3 hRK hc) flX10_207 rfl (ly_c hc).1 rfl (by omega) dX10_ground_65 rfl ?_
    refine V_iload_n 69 1 rfl rfl dX10_ground_68 rfl ?_
    refine V_ialdN 70 (c + 4) 6 h (cGr K (2 * h + 1)) (hC.2.2.2.2.2.2.1 h (by assumption)) (by omega) (by decide) (ly_c hc).2.2.2.2.1 (by omega) dX10_ground_69 rfl ?_
    refine V_ret_i rfl rfl (Nat.le_of_ble_eq_true rfl) (fun h => absurd h (by decide)) (Nat.le_of_ble_eq_true rfl) (hq I FrQ.rf) dX10_ground_70
  · show V _ _ _ _ _ _ _ _ [(0, rf G 0), (1, .int (nI h)), (2, .int 2)] [] _ _ _ _ _
    refine V_iload_n 23 2 rfl rfl dX10_ground_22 rfl ?_
    refine V_tabIn (off := 48) 71 (by decide) (by decide) (by decide) rfl dX10_ground_23 ?_
    refine V_aload_n 72 0 rfl _ rfl rfl dX10_ground_71 rfl ?_
    refine V_getR 75 0 10 2 18 (hRS 0 2 (by decide)) flX10_26 rfl rfl rfl (by decide) dX10_ground_72 rfl ?_
    refine V_iload_n 76 1 rfl rfl dX10_ground_75 rfl ?_
    refine V_callV (K' := 0) (S' := 0) 79 18 3 1 [.int (nI h)] mkX3_menAt lkX10_210 (by decide) rfl rfl (by decide) rfl (Nat.le_of_ble_eq_true rfl) (Nat.le_of_ble_eq_true rfl) (Nat.le_of_ble_eq_true rfl) (Nat.le_of_ble_eq_true rfl) rfl rfl dX10_ground_76 rfl (c_X3_menAt_18 hRK hD ?_)
    refine Kq_i (k' := 2) (sl' := 12) rfl rfl ?_
    refine V_ret_i rfl rfl (Nat.le_of_ble_eq_true rfl) (fun h => absurd h (by decide)) (Nat.le_of_ble_eq_true rfl) (hq I FrQ.rf) dX10_ground_79
  · show V _ _ _ _ _ _ _ _ [(0, rf G 0), (1, .int (nI h)), (2, .int 3)] [] _ _ _ _ _
    refine V_iload_n 23 2 rfl rfl dX10_ground_22 rfl ?_
    refine V_tabOut 80 (by decide) rfl dX10_ground_23 ?_
    refine V_aload_n 81 0 rfl _ rfl rfl dX10_ground_80 rfl ?_
    refine V_getR 84 0 10 1 3 (hRS 0 1 (by decide)) flX10_19 rfl rfl rfl (by decide) dX10_ground_81 rfl ?_
    refine V_getR 87 3 7 0 c hR3c flX10_85 rfl rfl rfl (by decide) dX10_ground_84 rfl ?_
    refine V_getR 90 c 2 2 (c + 3) (rk_c2 hRK hc) flX10_213 rfl (ly_c hc).1 rfl (by omega) dX10_ground_87 rfl ?_
    refine V_iload_n 91 1 rfl rfl dX10_ground_90 rfl ?_
    refine V_ialdN 92 (c + 3) 6 h (cGr K (2 * h)) (hC.2.2.2.2.2.1 h (by assumption)) (by omega) (by decide) (ly_c hc).2.2.2.1 (by omega) dX10_ground_91 rfl ?_
    refine V_ret_i rfl rfl (Nat.le_of_ble_eq_true rfl) (fun h => absurd h (by decide)) (Nat.le_of_ble_eq_true rfl) (hq I FrQ.rf) dX10_ground_92
set_option maxHeartbeats 8000000 in
theorem c_X10_man {G : Gx} {d : Nat} {I : FI} {R : FR} {J : FJ} {Q : Po} {c l b : Nat} {K : CO} {f : DV → Int32} {D : DV} (hX : RC I R c l b K f D) {x y : Int32}  (hq : Ho I R J Q (ckN x (cM K) (ckW y 0 7 (.inl (manF K D x.toNatClampNeg y.toNatClampNeg))))) : Cc G mX10_man (d + 60) 8 48 [rf G 0, .int x, .int y] 103 I R J Q := by
  obtain ⟨hRS, hc, hl, hb, hC, hW, hD, hI, hL⟩ := hX
  have hRK := hRS.K
  have hR3c : R 3 0 = some c := hRS 3 0 (by decide)
  have hR3l : R 3 1 = some l := hRS 3 1 (by decide)
  have hR32 : R 3 2 = some 16 := hRS 3 2 (by decide)
  have hR33 : R 3 3 = some 17 := hRS 3 3 (by decide)
  have h8 := hW.1
  have hg6 := hW.2.1
  have h6 := hW.2.2.1
  have hWD := hI.1
  have hFl := hI.1.1
  show V _ _ _ _ _ _ _ _ [(0, rf G 0), (1, .int x), (2, .int y)] [] _ _ _ _ _
  refine V_aload_n 1 0 rfl _ rfl rfl dX10_man_0 rfl ?_
  refine V_iload_n 2 1 rfl rfl dX10_man_1 rfl ?_
  refine V_aload_n 3 0 rfl _ rfl rfl dX10_man_2 rfl ?_
  refine V_getR 6 0 10 1 3 (hRS 0 1 (by decide)) flX10_19 rfl rfl rfl (by decide) dX10_man_3 rfl ?_
  refine V_getR 9 3 7 0 c hR3c flX10_85 rfl rfl rfl (by decide) dX10_man_6 rfl ?_
  refine V_getI 12 c 2 8 (nI (cM K)) hC.2.2.1 flX10_127 rfl (ly_c hc).1 rfl (by omega) dX10_man_9 rfl ?_
  refine V_callV (K' := 1) (S' := 6) 15 0 10 2 [.int x, .int (nI (cM K))] mkX10_needOneOf lkX10_187 (by decide) rfl rfl (by decide) rfl (Nat.le_of_ble_eq_true rfl) (Nat.le_of_ble_eq_true rfl) (Nat.le_of_ble_eq_true rfl) (Nat.le_of_ble_eq_true rfl) rfl rfl dX10_man_12 rfl (c_X10_needOneOf (c := cM K) (by omega) (fun i12 => ?_) (fun i12 => by rw [ckN_n (by omega) i12] at hq; exact hq _ rfl))
  refine Kq_v (k' := 1) (sl' := 6) rfl rfl ?_
  rw [ckN_y (by omega) i12] at hq
  obtain ⟨h, hh, rfl⟩ := i12
  refine V_aload_n 16 0 rfl _ rfl rfl dX10_man_15 rfl ?_
  refine V_iload_n 17 2 rfl rfl dX10_man_16 rfl ?_
  refine V_iconst 18 (0) rfl dX10_man_17 rfl ?_
  refine V_bipush 20 (7) rfl dX10_man_18 rfl ?_
  refine V_callV (K' := 1) (S' := 6) 23 0 10 3 [.int y, .int 0, .int 7] mkX10_needWithin lkX10_158 (by decide) rfl rfl (by decide) rfl (Nat.le_of_ble_eq_true rfl) (Nat.le_of_ble_eq_true rfl) (Nat.le_of_ble_eq_true rfl) (Nat.le_of_ble_eq_true rfl) rfl rfl dX10_man_20 rfl (c_X10_needWithin (fun a20 b20 => ?_) (fun a20 => by rw [ckW_n a20] at hq; exact hq _ rfl))
  refine Kq_v (k' := 2) (sl' := 12) rfl rfl ?_
  rw [ckW_y a20 b20] at hq
  obtain ⟨j, hj, rfl⟩ := in_nI (n := 7) (by decide) a20 b20
  rw [nI_clamp (show h < 2 ^ 31 by omega)] at hq
  rw [nI_clamp (show j < 2 ^ 31 by omega)] at hq
  rcases (show j = 0 ∨ j = 1 ∨ j = 2 ∨ j = 3 ∨ j = 4 ∨ j = 5 ∨ j = 6 ∨ j = 7 by omega) with rfl | rfl | rfl | rfl | rfl | rfl | rfl | rfl
  · show V _ _ _ _ _ _ _ _ [(0, rf G 0), (1, .int (nI h)), (2, .int 0)] [] _ _ _ _ _
    refine V_iload_n 24 2 rfl rfl dX10_man_23 rfl ?_
    refine V_tabIn (off := 44) 68 (by decide) (by decide) (by decide) rfl dX10_man_24 ?_
    refine V_aload_n 69 0 rfl _ rfl rfl dX10_man_68 rfl ?_
    refine V_getR 72 0 10 1 3 (hRS 0 1 (by decide)) flX10_19 rfl rfl rfl (by decide) dX10_man_69 rfl ?_
    refine V_getR 75 3 7 0 c hR3c flX10_85 rfl rfl rfl (by decide) dX10_man_72 rfl ?_
    refine V_getR 78 c 2 4 (c + 5) (rk_c4 hRK hc) flX10_216 rfl (ly_c hc).1 rfl (by omega) dX10_man_75 rfl ?_
    refine V_iload_n 79 1 rfl rfl dX10_man_78 rfl ?_
    refine V_ialdN 80 (c + 5) 6 h (cBt K h) (hC.2.2.2.2.2.2.2.1 h (by assumption)) (by omega) (by decide) (ly_c hc).2.2.2.2.2.1 (by omega) dX10_man_79 rfl ?_
    refine V_ret_i rfl rfl (Nat.le_of_ble_eq_true rfl) (fun h => absurd h (by decide)) (Nat.le_of_ble_eq_true rfl) (hq I FrQ.rf) dX10_man_80
  · show V _ _ _ _ _ _ _ _ [(0, rf G 0), (1, .int (nI h)), (2, .int 1)] [] _ _ _ _ _
    refine V_iload_n 24 2 rfl rfl dX10_man_23 rfl ?_
    refine V_tabIn (off := 57) 81 (by decide) (by decide) (by decide) rfl dX10_man_24 ?_
    refine V_aload_n 82 0 rfl _ rfl rfl dX10_man_81 rfl ?_
    refine V_getR 85 0 10 2 18 (hRS 0 2 (by decide)) flX10_26 rfl rfl rfl (by decide) dX10_man_82 rfl ?_
    refine V_getR 88 18 3 0 19 (hRK 18 0 (by decide) (by decide) (by decide)) flX10_219 rfl rfl rfl (by decide) dX10_man_85 rfl ?_
    refine V_iload_n 89 1 rfl rfl dX10_man_88 rfl ?_
    refine V_ialdN 90 19 6 h (D (18 + h)) (hD.1 h (by omega)) (by omega) (by decide) rfl (by decide) dX10_man_89 rfl ?_
    refine V_ret_i rfl rfl (Nat.le_of_ble_eq_true rfl) (fun h => absurd h (by decide)) (Nat.le_of_ble_eq_true rfl) (hq I FrQ.rf) dX10_man_90
  · show V _ _ _ _ _ _ _ _ [(0, rf G 0), (1, .int (nI h)), (2, .int 2)] [] _ _ _ _ _
    refine V_iload_n 24 2 rfl rfl dX10_man_23 rfl ?_
    refine V_tabIn (off := 67) 91 (by decide) (by decide) (by decide) rfl dX10_man_24 ?_
    refine V_aload_n 92 0 rfl _ rfl rfl dX10_man_91 rfl ?_
    refine V_getR 95 0 10 2 18 (hRS 0 2 (by decide)) flX10_26 rfl rfl rfl (by decide) dX10_man_92 rfl ?_
    refine V_getR 98 18 3 1 20 (hRK 18 1 (by decide) (by decide) (by decide)) flX10_222 rfl rfl rfl (by decide) dX10_man_95 rfl ?_
    refine V_iload_n 99 1 rfl rfl dX10_man_98 rfl ?_
    refine V_ialdN 100 20 6 h (D h) (hD.2.1 h (by omega)) (by omega) (by decide) rfl (by decide) dX10_man_99 rfl ?_
    refine V_ret_i rfl rfl (Nat.le_of_ble_eq_true rfl) (fun h => absurd h (by decide)) (Nat.le_of_ble_eq_true rfl) (hq I FrQ.rf) dX10_man_100
  · show V _ _ _ _ _ _ _ _ [(0, rf G 0), (1, .int (nI h)), (2, .int 3)] [] _ _ _ _ _
    refine V_iload_n 24 2 rfl rfl dX10_man_23 rfl ?_
    refine V_tabIn (off := 77) 101 (by decide) (by decide) (by decide) rfl dX10_man_24 ?_
    refine V_aload_n 102 0 rfl _ rfl rfl dX10_man_101 rfl ?_
    refine V_getR 105 0 10 2 18 (hRS 0 2 (by decide)) flX10_26 rfl rfl rfl (by decide) dX10_man_102 rfl ?_
    refine V_getR 108 18 3 2 21 (hRK 18 2 (by decide) (by decide) (by decide)) flX10_225 rfl rfl rfl (by decide) dX10_man_105 rfl ?_
    refine V_iload_n 109 1 rfl rfl dX10_man_108 rfl ?_
    refine V_ialdN 110 21 6 h (D (6 + h)) (hD.2.2.1 h (by omega)) (by omega) (by decide) rfl (by decide) dX10_man_109 rfl ?_
    refine V_ret_i rfl rfl (Nat.le_of_ble_eq_true rfl) (fun h => absurd h (by decide)) (Nat.le_of_ble_eq_true rfl) (hq I FrQ.rf) dX10_man_110
  · show V _ _ _ _ _ _ _ _ [(0, rf G 0), (1, .int (nI h)), (2, .int 4)] [] _ _ _ _ _
    refine V_iload_n 24 2 rfl rfl dX10_man_23 rfl ?_
    refine V_tabIn (off := 87) 111 (by decide) (by decide) (by decide) rfl dX10_man_24 ?_
    refine V_aload_n 112 0 rfl _ rfl rfl dX10_man_111 rfl ?_
    refine V_getR 115 0 10 2 18 (hRS 0 2 (by decide)) flX10_26 rfl rfl rfl (by decide) dX10_man_112 rfl ?_
    refine V_getR 118 18 3 3 22 (hRK 18 3 (by decide) (by decide) (by decide)) flX10_228 rfl rfl rfl (by decide) dX10_man_115 rfl ?_
    refine V_iload_n 119 1 rfl rfl dX10_man_118 rfl ?_
    refine V_ialdN 120 22 6 h (D (12 + h)) (hD.2.2.2.1 h (by omega)) (by omega) (by decide) rfl (by decide) dX10_man_119 rfl ?_
    refine V_ret_i rfl rfl (Nat.le_of_ble_eq_true rfl) (fun h => absurd h (by decide)) (Nat.le_of_ble_eq_true rfl) (hq I FrQ.rf) dX10_man_120
  · show V _ _ _ _ _ _ _ _ [(0, rf G 0), (1, .int (nI h)), (2, .int 5)] [] _ _ _ _ _
    refine V_iload_n 24 2 rfl rfl dX10_man_23 rfl ?_
    refine V_tabIn (off := 97) 121 (by decide) (by decide) (by decide) rfl dX10_man_24 ?_
    refine V_aload_n 122 0 rfl _ rfl rfl dX10_man_121 rfl ?_
    refine V_getR 125 0 10 2 18 (hRS 0 2 (by decide)) flX10_26 rfl rfl rfl (by decide) dX10_man_122 rfl ?_
    refine V_getR 128 18 3 4 23 (hRK 18 4 (by decide) (by decide) (by decide)) flX10_231 rfl rfl rfl (by decide) dX10_man_125 rfl ?_
    refine V_iload_n 129 1 rfl rfl dX10_man_128 rfl ?_
    refine V_ialdN 130 23 6 h (D (24 + h)) (hD.2.2.2.2.1 h (by omega)) (by omega) (by decide) rfl (by decide) dX10_man_129 rfl ?_
    refine V_ret_i rfl rfl (Nat.le_of_ble_eq_true rfl) (fun h => absurd h (by decide)) (Nat.le_of_ble_eq_true rfl) (hq I FrQ.rf) dX10_man_130
  · show V _ _ _ _ _ _ _ _ [(0, rf G 0), (1, .int (nI h)), (2, .int 6)] [] _ _ _ _ _
    refine V_iload_n 24 2 rfl rfl dX10_man_23 rfl ?_
    refine V_tabIn (off := 107) 131 (by decide) (by decide) (by decide) rfl dX10_man_24 ?_
    refine V_aload_n 132 0 rfl _ rfl rfl dX10_man_131 rfl ?_
    refine V_getR 135 0 10 1 3 (hRS 0 1 (by decide)) flX10_19 rfl rfl rfl (by decide) dX10_man_132 rfl ?_
    refine V_getR 138 3 7 0 c hR3c flX10_85 rfl rfl rfl (by decide) dX10_man_135 rfl ?_
    refine V_getR 141 c 2 5 (c + 6) (rk_c5 hRK hc) flX10_234 rfl (ly_c hc).1 rfl (by omega) dX10_man_138 rfl ?_
    refine V_iload_n 142 1 rfl rfl dX10_man_141 rfl ?_
    refine V_ialdN 143 (c + 6) 6 h (oI (cHr K h)) (hC.2.2.2.2.2.2.2.2 h (by assumption)) (by omega) (by decide) (ly_c hc).2.2.2.2.2.2 (by omega) dX10_man_142 rfl ?_
    refine V_ret_i rfl rfl (Nat.le_of_ble_eq_true rfl) (fun h => absurd h (by decide)) (Nat.le_of_ble_eq_true rfl) (hq I FrQ.rf) dX10_man_143
  · show V _ _ _ _ _ _ _ _ [(0, rf G 0), (1, .int (nI h)), (2, .int 7)] [] _ _ _ _ _
    refine V_iload_n 24 2 rfl rfl dX10_man_23 rfl ?_
    refine V_tabOut 144 (by decide) rfl dX10_man_24 ?_
    refine V_aload_n 145 0 rfl _ rfl rfl dX10_man_144 rfl ?_
    refine V_getR 148 0 10 2 18 (hRS 0 2 (by decide)) flX10_26 rfl rfl rfl (by decide) dX10_man_145 rfl ?_
    refine V_iload_n 149 1 rfl rfl dX10_man_148 rfl ?_
    refine V_callV (K' := 0) (S' := 0) 152 18 3 1 [.int (nI h)] mkX3_lives lkX10_237 (by decide) rfl rfl (by decide) rfl (Nat.le_of_ble_eq_true rfl) (Nat.le_of_ble_eq_true rfl) (Nat.le_of_ble_eq_true rfl) (Nat.le_of_ble_eq_true rfl) rfl rfl dX10_man_149 rfl (c_X3_lives_18 hRK hD hFl (by omega) (fun e1 => ?_) (fun e1 => ?_))
    · refine Kq_i (k' := 2) (sl' := 12) rfl rfl ?_
      rw [show manF K D h 7 = 1 from e1] at hq
      refine V_if_eq 159 155 rfl dX10_man_152 rfl (fun c152 => absurd c152 (by decide)) (fun c152 => ?_)
      refine V_iconst 156 (1) rfl dX10_man_155 rfl ?_
      refine V_goto 160 rfl dX10_man_156 ?_
      refine V_ret_i rfl rfl (Nat.le_of_ble_eq_true rfl) (fun h => absurd h (by decide)) (Nat.le_of_ble_eq_true rfl) (hq I FrQ.rf) dX10_man_160
    · refine Kq_i (k' := 2) (sl' := 12) rfl rfl ?_
      rw [show manF K D h 7 = 0 from e1] at hq
      refine V_if_eq 159 155 rfl dX10_man_152 rfl (fun c152 => ?_) (fun c152 => absurd c152 (by decide))
      refine V_iconst 160 (0) rfl dX10_man_159 rfl ?_
      refine V_ret_i rfl rfl (Nat.le_of_ble_eq_true rfl) (fun h => absurd h (by decide)) (Nat.le_of_ble_eq_true rfl) (hq I FrQ.rf) dX10_man_160
set_option maxHeartbeats 8000000 in
theorem c_X10_sea {G : Gx} {d : Nat} {I : FI} {R : FR} {J : FJ} {Q : Po} {c l b : Nat} {K : CO} {f : DV → Int32} {D : DV} (hX : RC I R c l b K f D) {x : Int32}  (hq : Ho I R J Q (ckN x (cM K) (.inl (seaD K f D x.toNatClampNeg)))) : Cc G mX10_sea (d + 60) 8 48 [rf G 0, .int x] 103 I R J Q := by
  obtain ⟨hRS, hc, hl, hb, hC, hW, hD, hI, hL⟩ := hX
  have hRK := hRS.K
  have hR3c : R 3 0 = some c := hRS 3 0 (by decide)
  have hR3l : R 3 1 = some l := hRS 3 1 (by decide)
  have hR32 : R 3 2 = some 16 := hRS 3 2 (by decide)
  have hR33 : R 3 3 = some 17 := hRS 3 3 (by decide)
  have h8 := hW.1
  have hg6 := hW.2.1
  have h6 := hW.2.2.1
  have hWD := hI.1
  have hFl := hI.1.1
  show V _ _ _ _ _ _ _ _ [(0, rf G 0), (1, .int x)] [] _ _ _ _ _
  refine V_aload_n 1 0 rfl _ rfl rfl dX10_sea_0 rfl ?_
  refine V_iload_n 2 1 rfl rfl dX10_sea_1 rfl ?_
  refine V_aload_n 3 0 rfl _ rfl rfl dX10_sea_2 rfl ?_
  refine V_getR 6 0 10 1 3 (hRS 0 1 (by decide)) flX10_19 rfl rfl rfl (by decide) dX10_sea_3 rfl ?_
  refine V_getR 9 3 7 0 c hR3c flX10_85 rfl rfl rfl (by decide) dX10_sea_6 rfl ?_
  refine V_getI 12 c 2 8 (nI (cM K)) hC.2.2.1 flX10_127 rfl (ly_c hc).1 rfl (by omega) dX10_sea_9 rfl ?_
  refine V_callV (K' := 1) (S' := 6) 15 0 10 2 [.int x, .int (nI (cM K))] mkX10_needOneOf lkX10_187 (by decide) rfl rfl (by decide) rfl (Nat.le_of_ble_eq_true rfl) (Nat.le_of_ble_eq_true rfl) (Nat.le_of_ble_eq_true rfl) (Nat.le_of_ble_eq_true rfl) rfl rfl dX10_sea_12 rfl (c_X10_needOneOf (c := cM K) (by omega) (fun i12 => ?_) (fun i12 => by rw [ckN_n (by omega) i12] at hq; exact hq _ rfl))
  refine Kq_v (k' := 1) (sl' := 6) rfl rfl ?_
  rw [ckN_y (by omega) i12] at hq
  obtain ⟨h, hh, rfl⟩ := i12
  refine V_aload_n 16 0 rfl _ rfl rfl dX10_sea_15 rfl ?_
  refine V_getR 19 0 10 1 3 (hRS 0 1 (by decide)) flX10_19 rfl rfl rfl (by decide) dX10_sea_16 rfl ?_
  refine V_aload_n 20 0 rfl _ rfl rfl dX10_sea_19 rfl ?_
  refine V_getR 23 0 10 2 18 (hRS 0 2 (by decide)) flX10_26 rfl rfl rfl (by decide) dX10_sea_20 rfl ?_
  refine V_iload_n 24 1 rfl rfl dX10_sea_23 rfl ?_
  rw [nI_clamp (show h < 2 ^ 31 by omega)] at hq
  refine V_callV (K' := 0) (S' := 0) 27 3 7 2 [rf G 18, .int (nI h)] mkX7_seaOf lkX10_241 (by decide) rfl rfl (by decide) rfl (Nat.le_of_ble_eq_true rfl) (Nat.le_of_ble_eq_true rfl) (Nat.le_of_ble_eq_true rfl) (Nat.le_of_ble_eq_true rfl) rfl rfl dX10_sea_24 rfl (c_X7_seaOf hRK hR3c hR3l hR32 hR33 hc (Or.inl rfl) hl hC hW hD hWD hL hh (fun I1 hI1 => ?_))
  refine Kq_i (k' := 1) (sl' := 6) rfl rfl ?_
  refine V_ret_i rfl rfl (Nat.le_of_ble_eq_true rfl) (fun h => absurd h (by decide)) (Nat.le_of_ble_eq_true rfl) (hq I1 (FrQ.s hI1 hl)) dX10_sea_27
set_option maxHeartbeats 8000000 in
theorem c_X10_would {G : Gx} {d : Nat} {I : FI} {R : FR} {J : FJ} {Q : Po} {c l b : Nat} {K : CO} {f : DV → Int32} {D : DV} (hX : RC I R c l b K f D) {x1 x2 x3 x4 x5 x6 x7 x8 : Int32}  (hq : Ho I R J Q (ckW x1 1 21 (ckW x2 0 4 (ckW x3 0 999 (ckW x4 1 99 (ckW x5 0 999 (ckW x6 0 999 (ckW x7 0 5 (ckW x8 0 900 (.inl (f (f8 x1 x2 x3 x4 x5 x6 x7 x8)))))))))))) : Cc G mX10_would (d + 60) 8 48 [rf G 0, .int x1, .int x2, .int x3, .int x4, .int x5, .int x6, .int x7, .int x8] 103 I R J Q := by
  obtain ⟨hRS, hc, hl, hb, hC, hW, hD, hI, hL⟩ := hX
  have hRK := hRS.K
  have hR3c : R 3 0 = some c := hRS 3 0 (by decide)
  have hR3l : R 3 1 = some l := hRS 3 1 (by decide)
  have hR32 : R 3 2 = some 16 := hRS 3 2 (by decide)
  have hR33 : R 3 3 = some 17 := hRS 3 3 (by decide)
  have h8 := hW.1
  have hg6 := hW.2.1
  have h6 := hW.2.2.1
  have hWD := hI.1
  have hFl := hI.1.1
  show V _ _ _ _ _ _ _ _ [(0, rf G 0), (1, .int x1), (2, .int x2), (3, .int x3), (4, .int x4), (5, .int x5), (6, .int x6), (7, .int x7), (8, .int x8)] [] _ _ _ _ _
  refine V_aload_n 1 0 rfl _ rfl rfl dX10_would_0 rfl ?_
  refine V_iload_n 2 1 rfl rfl dX10_would_1 rfl ?_
  refine V_iconst 3 (1) rfl dX10_would_2 rfl ?_
  refine V_bipush 5 (21) rfl dX10_would_3 rfl ?_
  refine V_callV (K' := 1) (S' := 6) 8 0 10 3 [.int x1, .int 1, .int 21] mkX10_needWithin lkX10_158 (by decide) rfl rfl (by decide) rfl (Nat.le_of_ble_eq_true rfl) (Nat.le_of_ble_eq_true rfl) (Nat.le_of_ble_eq_true rfl) (Nat.le_of_ble_eq_true rfl) rfl rfl dX10_would_5 rfl (c_X10_needWithin (fun a5 b5 => ?_) (fun a5 => by rw [ckW_n a5] at hq; exact hq _ rfl))
  refine Kq_v (k' := 1) (sl' := 6) rfl rfl ?_
  rw [ckW_y a5 b5] at hq
  refine V_aload_n 9 0 rfl _ rfl rfl dX10_would_8 rfl ?_
  refine V_iload_n 10 2 rfl rfl dX10_would_9 rfl ?_
  refine V_iconst 11 (0) rfl dX10_would_10 rfl ?_
  refine V_iconst 12 (4) rfl dX10_would_11 rfl ?_
  refine V_callV (K' := 1) (S' := 6) 15 0 10 3 [.int x2, .int 0, .int 4] mkX10_needWithin lkX10_158 (by decide) rfl rfl (by decide) rfl (Nat.le_of_ble_eq_true rfl) (Nat.le_of_ble_eq_true rfl) (Nat.le_of_ble_eq_true rfl) (Nat.le_of_ble_eq_true rfl) rfl rfl dX10_would_12 rfl (c_X10_needWithin (fun a12 b12 => ?_) (fun a12 => by rw [ckW_n a12] at hq; exact hq _ rfl))
  refine Kq_v (k' := 2) (sl' := 12) rfl rfl ?_
  rw [ckW_y a12 b12] at hq
  refine V_aload_n 16 0 rfl _ rfl rfl dX10_would_15 rfl ?_
  refine V_iload_n 17 3 rfl rfl dX10_would_16 rfl ?_
  refine V_iconst 18 (0) rfl dX10_would_17 rfl ?_
  refine V_sipush 21 (999) rfl dX10_would_18 rfl ?_
  refine V_callV (K' := 1) (S' := 6) 24 0 10 3 [.int x3, .int 0, .int 999] mkX10_needWithin lkX10_158 (by decide) rfl rfl (by decide) rfl (Nat.le_of_ble_eq_true rfl) (Nat.le_of_ble_eq_true rfl) (Nat.le_of_ble_eq_true rfl) (Nat.le_of_ble_eq_true rfl) rfl rfl dX10_would_21 rfl (c_X10_needWithin (fun a21 b21 => ?_) (fun a21 => by rw [ckW_n a21] at hq; exact hq _ rfl))
  refine Kq_v (k' := 3) (sl' := 18) rfl rfl ?_
  rw [ckW_y a21 b21] at hq
  refine V_aload_n 25 0 rfl _ rfl rfl dX10_would_24 rfl ?_
  refine V_iload 27 4 rfl dX10_would_25 rfl ?_
  refine V_iconst 28 (1) rfl dX10_would_27 rfl ?_
  refine V_bipush 30 (99) rfl dX10_would_28 rfl ?_
  refine V_callV (K' := 1) (S' := 6) 33 0 10 3 [.int x4, .int 1, .int 99] mkX10_needWithin lkX10_158 (by decide) rfl rfl (by decide) rfl (Nat.le_of_ble_eq_true rfl) (Nat.le_of_ble_eq_true rfl) (Nat.le_of_ble_eq_true rfl) (Nat.le_of_ble_eq_true rfl) rfl rfl dX10_would_30 rfl (c_X10_needWithin (fun a30 b30 => ?_) (fun a30 => by rw [ckW_n a30] at hq; exact hq _ rfl))
  refine Kq_v (k' := 4) (sl' := 24) rfl rfl ?_
  rw [ckW_y a30 b30] at hq
  refine V_aload_n 34 0 rfl _ rfl rfl dX10_would_33 rfl ?_
  refine V_iload 36 5 rfl dX10_would_34 rfl ?_
  refine V_iconst 37 (0) rfl dX10_would_36 rfl ?_
  refine V_sipush 40 (999) rfl dX10_would_37 rfl ?_
  refine V_callV (K' := 1) (S' := 6) 43 0 10 3 [.int x5, .int 0, .int 999] mkX10_needWithin lkX10_158 (by decide) rfl rfl (by decide) rfl (Nat.le_of_ble_eq_true rfl) (Nat.le_of_ble_eq_true rfl) (Nat.le_of_ble_eq_true rfl) (Nat.le_of_ble_eq_true rfl) rfl rfl dX10_would_40 rfl (c_X10_needWithin (fun a40 b40 => ?_) (fun a40 => by rw [ckW_n a40] at hq; exact hq _ rfl))
  refine Kq_v (k' := 5) (sl' := 30) rfl rfl ?_
  rw [ckW_y a40 b40] at hq
  refine V_aload_n 44 0 rfl _ rfl rfl dX10_would_43 rfl ?_
  refine V_iload 46 6 rfl dX10_would_44 rfl ?_
  refine V_iconst 47 (0) rfl dX10_would_46 rfl ?_
  refine V_sipush 50 (999) rfl dX10_would_47 rfl ?_
  refine V_callV (K' := 1) (S' := 6) 53 0 10 3 [.int x6, .int 0, .int 999] mkX10_needWithin lkX10_158 (by decide) rfl rfl (by decide) rfl (Nat.le_of_ble_eq_true rfl) (Nat.le_of_ble_eq_true rfl) (Nat.le_of_ble_eq_true rfl) (Nat.le_of_ble_eq_true rfl) rfl rfl dX10_would_50 rfl (c_X10_needWithin (fun a50 b50 => ?_) (fun a50 => by rw [ckW_n a50] at hq; exact hq _ rfl))
  refine Kq_v (k' := 6) (sl' := 36) rfl rfl ?_
  rw [ckW_y a50 b50] at hq
  refine V_aload_n 54 0 rfl _ rfl rfl dX10_would_53 rfl ?_
  refine V_iload 56 7 rfl dX10_would_54 rfl ?_
  refine V_iconst 57 (0) rfl dX10_would_56 rfl ?_
  refine V_iconst 58 (5) rfl dX10_would_57 rfl ?_
  refine V_callV (K' := 1) (S' := 6) 61 0 10 3 [.int x7, .int 0, .int 5] mkX10_needWithin lkX10_158 (by decide) rfl rfl (by decide) rfl (Nat.le_of_ble_eq_true rfl) (Nat.le_of_ble_eq_true rfl) (Nat.le_of_ble_eq_true rfl) (Nat.le_of_ble_eq_true rfl) rfl rfl dX10_would_58 rfl (c_X10_needWithin (fun a58 b58 => ?_) (fun a58 => by rw [ckW_n a58] at hq; exact hq _ rfl))
  refine Kq_v (k' := 7) (sl' := 42) rfl rfl ?_
  rw [ckW_y a58 b58] at hq
  refine V_aload_n 62 0 rfl _ rfl rfl dX10_would_61 rfl ?_
  refine V_iload 64 8 rfl dX10_would_62 rfl ?_
  refine V_iconst 65 (0) rfl dX10_would_64 rfl ?_
  refine V_sipush 68 (900) rfl dX10_would_65 rfl ?_
  refine V_callV (K' := 1) (S' := 6) 71 0 10 3 [.int x8, .int 0, .int 900] mkX10_needWithin lkX10_158 (by decide) rfl rfl (by decide) rfl (Nat.le_of_ble_eq_true rfl) (Nat.le_of_ble_eq_true rfl) (Nat.le_of_ble_eq_true rfl) (Nat.le_of_ble_eq_true rfl) rfl rfl dX10_would_68 rfl (c_X10_needWithin (fun a68 b68 => ?_) (fun a68 => by rw [ckW_n a68] at hq; exact hq _ rfl))
  refine Kq_v (k' := 8) (sl' := 48) rfl rfl ?_
  rw [ckW_y a68 b68] at hq
  refine V_aload_n 72 0 rfl _ rfl rfl dX10_would_71 rfl ?_
  refine V_getR 75 0 10 1 3 (hRS 0 1 (by decide)) flX10_19 rfl rfl rfl (by decide) dX10_would_72 rfl ?_
  refine V_getR 78 3 7 2 16 hR32 flX10_245 rfl rfl rfl (by decide) dX10_would_75 rfl ?_
  refine V_astore 80 _ rfl [(9, rf G 16), (0, rf G 0), (1, .int x1), (2, .int x2), (3, .int x3), (4, .int x4), (5, .int x5), (6, .int x6), (7, .int x7), (8, .int x8)] (by decide) rfl dX10_would_78 rfl ?_
  refine V_aload 82 0 rfl _ rfl dX10_would_80 rfl ?_
  refine V_iconst 83 (0) rfl dX10_would_82 rfl ?_
  refine V_iload_n 84 2 rfl rfl dX10_would_83 rfl ?_
  refine V_iastN 85 16 8 0 (by decide) (by decide) rfl (by decide) dX10_would_84 rfl ?_
  refine V_aload 87 0 rfl _ rfl dX10_would_85 rfl ?_
  refine V_iconst 88 (1) rfl dX10_would_87 rfl ?_
  refine V_iload_n 89 3 rfl rfl dX10_would_88 rfl ?_
  refine V_iastN 90 16 8 1 (by decide) (by decide) rfl (by decide) dX10_would_89 rfl ?_
  refine V_aload 92 0 rfl _ rfl dX10_would_90 rfl ?_
  refine V_iconst 93 (2) rfl dX10_would_92 rfl ?_
  refine V_iload_n 94 4 rfl rfl dX10_would_93 rfl ?_
  refine V_iastN 95 16 8 2 (by decide) (by decide) rfl (by decide) dX10_would_94 rfl ?_
  refine V_aload 97 0 rfl _ rfl dX10_would_95 rfl ?_
  refine V_iconst 98 (3) rfl dX10_would_97 rfl ?_
  refine V_iload 100 5 rfl dX10_would_98 rfl ?_
  refine V_iastN 101 16 8 3 (by decide) (by decide) rfl (by decide) dX10_would_100 rfl ?_
  refine V_aload 103 0 rfl _ rfl dX10_would_101 rfl ?_
  refine V_iconst 104 (4) rfl dX10_would_103 rfl ?_
  refine V_iload 106 6 rfl dX10_would_104 rfl ?_
  refine V_iastN 107 16 8 4 (by decide) (by decide) rfl (by decide) dX10_would_106 rfl ?_
  refine V_aload 109 0 rfl _ rfl dX10_would_107 rfl ?_
  refine V_iconst 110 (5) rfl dX10_would_109 rfl ?_
  refine V_iload 112 7 rfl dX10_would_110 rfl ?_
  refine V_iastN 113 16 8 5 (by decide) (by decide) rfl (by decide) dX10_would_112 rfl ?_
  refine V_aload 115 0 rfl _ rfl dX10_would_113 rfl ?_
  refine V_bipush 117 (6) rfl dX10_would_115 rfl ?_
  refine V_iload 119 8 rfl dX10_would_117 rfl ?_
  refine V_iastN 120 16 8 6 (by decide) (by decide) rfl (by decide) dX10_would_119 rfl ?_
  refine V_aload 122 0 rfl _ rfl dX10_would_120 rfl ?_
  refine V_bipush 124 (7) rfl dX10_would_122 rfl ?_
  refine V_iload 126 9 rfl dX10_would_124 rfl ?_
  refine V_iastN 127 16 8 7 (by decide) (by decide) rfl (by decide) dX10_would_126 rfl ?_
  refine V_aload_n 128 1 rfl _ rfl rfl dX10_would_127 rfl ?_
  refine V_getR 131 0 10 1 3 (hRS 0 1 (by decide)) flX10_19 rfl rfl rfl (by decide) dX10_would_128 rfl ?_
  refine V_getR 134 3 7 1 l hR3l flX10_114 rfl rfl rfl (by decide) dX10_would_131 rfl ?_
  refine V_aload 136 0 rfl _ rfl dX10_would_134 rfl ?_
  have hfx : f ((up2 (up2 (up2 (up2 (up2 (up2 (up2 (up2 I 16 0 x1) 16 1 x2) 16 2 x3) 16 3 x4) 16 4 x5) 16 5 x6) 16 6 x7) 16 7 x8) 16) = f (f8 x1 x2 x3 x4 x5 x6 x7 x8) := hL.ext _ _ (fun k hk => by rcases (show k = 0 ∨ k = 1 ∨ k = 2 ∨ k = 3 ∨ k = 4 ∨ k = 5 ∨ k = 6 ∨ k = 7 by omega) with rfl | rfl | rfl | rfl | rfl | rfl | rfl | rfl <;> rfl)
  refine V_callV (K' := 0) (S' := 0) 139 l 5 1 [rf G 16] mkX5_seaBy lkX10_248 (by decide) rfl (ly_l hl).1 (by omega) rfl (Nat.le_of_ble_eq_true rfl) (Nat.le_of_ble_eq_true rfl) (Nat.le_of_ble_eq_true rfl) (Nat.le_of_ble_eq_true rfl) rfl rfl dX10_would_136 rfl (c_X5_seaBy hRK hl (hL.fr (fun a q1 q2 => by rw [up2_n _ _ _ (by omega), up2_n _ _ _ (by omega), up2_n _ _ _ (by omega), up2_n _ _ _ (by omega), up2_n _ _ _ (by omega), up2_n _ _ _ (by omega), up2_n _ _ _ (by omega), up2_n _ _ _ (by omega)])) (fun I1 hI1 => ?_))
  rw [hfx]
  refine Kq_i (k' := 8) (sl' := 48) rfl rfl ?_
  refine V_ret_i rfl rfl (Nat.le_of_ble_eq_true rfl) (fun h => absurd h (by decide)) (Nat.le_of_ble_eq_true rfl) (hq I1 (fun a q1 q2 q3 q4 => by rw [hI1 a (by omega), up2_n _ _ _ (by omega), up2_n _ _ _ (by omega), up2_n _ _ _ (by omega), up2_n _ _ _ (by omega), up2_n _ _ _ (by omega), up2_n _ _ _ (by omega), up2_n _ _ _ (by omega), up2_n _ _ _ (by omega)])) dX10_would_139
