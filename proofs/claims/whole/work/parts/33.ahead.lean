/-! ===== hours ahead, seasons ===== -/
theorem RC.fr {I I' : FI} {R : FR} {c l b : Nat} {K : CO} {f : DV → Int32} {D : DV} (h : RC I R c l b K f D) (hf : FrQ I I') : RC I' R c l b K f D := by
  obtain ⟨h1, hc, hl, hb, h5, h6, h7, h8, h9⟩ := h
  exact ⟨h1, hc, hl, hb, h5.fr (fun a q1 q2 => hf a (by omega) (by omega) (by omega) (by omega)), h6, h7.fr (fun a q1 q2 => hf a (by omega) (by omega) (by omega) (by omega)), h8, h9.fr (fun a q1 q2 => hf a (by omega) (by omega) (by omega) (by omega))⟩
def outF (E : DV) (j : Nat) : Int32 := match j with
  | 0 => sumF E 24 6
  | 1 => livB E 6
  | 2 => sumF E 44 6
  | _ => wornF E 6
def dmF (K : CO) (f : DV → Int32) (m : Nat) : Nat → Nat → DV → Int32
  | 0, k, E => if E (30 + m) = 0 then nI k else -1
  | n + 1, k, E => if E (30 + m) = 0 then nI k else dmF K f m n (k + 1) (passD K f E)
theorem hrsD_s (K : CO) (f : DV → Int32) (D : DV) (n : Nat) : passD K f (hrsD K f D n) = hrsD K f D (n + 1) := rfl
/-- what is drawn -/
def drw (sd : Int32) : Int32 := sd * 1103515245 + 12345
def drv (sd : Int32) (n : Nat) : Nat := (drw sd).toBitVec.toNat / 65536 % 32768 % n
theorem toInt_nat (x : Int32) : x.toInt = (x.toBitVec.toNat : Int) ∨ x.toInt = (x.toBitVec.toNat : Int) - 2 ^ 32 := by
  have : x.toInt = x.toBitVec.toInt := rfl
  rw [this, BitVec.toInt_eq_toNat_cond]
  split
  · exact Or.inl rfl
  · exact Or.inr rfl
theorem sh_u (x : Int32) : (x.toUInt32 >>> ((16 : Int32).toUInt32 &&& Int32.toUInt32 31)).toInt32 &&& 32767 = nI (x.toBitVec.toNat / 65536 % 32768) := by
  rw [pk_and _ 15 (by decide), pk_ushr x 16 16 (by decide)]
theorem sh_s (x : Int32) : (x >>> ((16 : Int32) &&& 31)) &&& 32767 = nI (x.toBitVec.toNat / 65536 % 32768) := by
  rw [pk_and _ 15 (by decide)]
  congr 1
  have h1 := pk_shr x ((16 : Int32) &&& 31) 16 (by decide)
  rw [Int.shiftRight_eq_div_pow] at h1
  have h2 := toInt_nat x
  have h3 := toInt_nat (x >>> ((16 : Int32) &&& 31))
  have h4 : x.toBitVec.toNat < 2 ^ 32 := x.toBitVec.isLt
  have h5 : (x >>> ((16 : Int32) &&& 31)).toBitVec.toNat < 2 ^ 32 := (x >>> ((16 : Int32) &&& 31)).toBitVec.isLt
  omega
theorem dr_rem (sd : Int32) {n : Nat} (h0 : 0 < n) (hn : n < 2 ^ 31) : nI ((drw sd).toBitVec.toNat / 65536 % 32768) - nI ((drw sd).toBitVec.toNat / 65536 % 32768) / nI n * nI n = nI (drv sd n) := pk_rem (by omega) h0 hn
theorem drv_lt (sd : Int32) {n : Nat} (h0 : 0 < n) : drv sd n < n := Nat.mod_lt _ h0
def weD (E : DV) (m h : Nat) : DV := if E (30 + m) = 1 ∧ wearF E (nI h) 6 0 = -1 then upd E m (nI h) else E
def saD (E : DV) (m g : Nat) : DV := if E (30 + m) = 1 ∧ ¬ E (6 + m) = nI g ∧ ¬ E m = -1 then upd (upd E (6 + m) (nI g)) (12 + m) 0 else E
theorem DI_we {K : CO} {E : DV} {m h : Nat} (h6 : cM K ≤ 6) (hE : DI K E) (hm : m < 6) (hh : h < cH K) : DI K (weD E m h) := by
  unfold weD
  split
  · rename_i q; exact DI_wear h6 hE hm q.1 hh
  · exact hE
theorem DI_sa {K : CO} {E : DV} {m g : Nat} (h6 : cM K ≤ 6) (hE : DI K E) (hm : m < 6) (hg : g < cG K) : DI K (saD E m g) := by
  unfold saD
  split
  · rename_i q; exact DI_sail h6 hE hm q.1 hg
  · exact hE
def drD (K : CO) (q : Int32) (E : DV) (sd : Int32) : DV := if nI (drv (drw (drw (drw sd))) 16) < q then dHome (saD (weD E (drv sd (cM K)) (drv (drw sd) (cH K))) (drv sd (cM K)) (drv (drw (drw sd)) (cG K))) (drv sd (cM K)) else saD (weD E (drv sd (cM K)) (drv (drw sd) (cH K))) (drv sd (cM K)) (drv (drw (drw sd)) (cG K))
theorem DI_dr {K : CO} {q : Int32} {E : DV} {sd : Int32} (hW : WK K) (h1 : 0 < cM K) (h2 : 0 < cH K) (h3 : 0 < cG K) (hE : DI K E) : DI K (drD K q E sd) := by
  have h6 := hW.2.2.1
  have a1 := drv_lt sd h1
  have a2 := DI_we (m := drv sd (cM K)) h6 hE (by omega) (drv_lt (drw sd) h2)
  have a3 := DI_sa (m := drv sd (cM K)) h6 a2 (by omega) (drv_lt (drw (drw sd)) h3)
  unfold drD
  split
  · exact DI_home h6 a3 (by omega)
  · exact a3
abbrev Drn (K : CO) : Prop := 0 < cM K ∧ 0 < cH K ∧ 0 < cG K
/-- a SEASON's hours: the day and the seed -/
def seS (K : CO) (f : DV → Int32) (q : Int32) (D : DV) (sd : Int32) : Nat → DV × Int32
  | 0 => (D, sd)
  | n + 1 => if Drn K then (passD K f (drD K q (seS K f q D sd n).1 (seS K f q D sd n).2), drw (drw (drw (drw (seS K f q D sd n).2)))) else (passD K f (seS K f q D sd n).1, (seS K f q D sd n).2)
theorem DI_se {K : CO} {f : DV → Int32} {q : Int32} {D : DV} {sd : Int32} (hW : WK K) (hf : fR f) (h : DI K D) : ∀ n, DI K (seS K f q D sd n).1 := by
  intro n
  induction n with
  | zero => exact h
  | succ n ih =>
    rw [seS]
    split
    · rename_i c
      exact DI_pass hW hf (DI_dr hW c.1 c.2.1 c.2.2 ih)
    · exact DI_pass hW hf ih
def spI (K : CO) (f : DV → Int32) (q : Int32) (D : DV) (sd : Int32) (hr n : Nat) : DV := (seS K f q D (sd + nI n) hr).1
def spF (K : CO) (f : DV → Int32) (q : Int32) (D : DV) (sd : Int32) (hr : Nat) : Nat → Int32 × Int32 × Int32
  | 0 => (2147483647, 0, 0)
  | n + 1 => (if sumF (spI K f q D sd hr n) 24 6 < (spF K f q D sd hr n).1 then sumF (spI K f q D sd hr n) 24 6 else (spF K f q D sd hr n).1, if (spF K f q D sd hr n).2.1 < sumF (spI K f q D sd hr n) 24 6 then sumF (spI K f q D sd hr n) 24 6 else (spF K f q D sd hr n).2.1, (spF K f q D sd hr n).2.2 + (if livB (spI K f q D sd hr n) 6 = livB D 6 then 1 else 0))
def spO (t : Int32 × Int32 × Int32) (j : Nat) : Int32 := match j with
  | 0 => t.1
  | 1 => t.2.1
  | _ => t.2.2
set_option maxHeartbeats 4000000 in
theorem c_X10_outcome {G : Gx} {d : Nat} {I : FI} {R : FR} {J : FJ} {Q : Po} {c l b : Nat} (hRS : RS R c l b) {E : DV} {j : Nat} (hj : j ≤ 3) (hDg : DayC I 26 E) (hq : Q (.inl (some (.int (outF E j)))) 103 I R J) : Cc G mX10_outcome (d + 1) 0 0 [rf G 0, .int (nI j)] 103 I R J Q := by
  have hRK := hRS.K
  rcases (show j = 0 ∨ j = 1 ∨ j = 2 ∨ j = 3 by omega) with rfl | rfl | rfl | rfl
  · show V _ _ _ _ _ _ _ _ [(0, rf G 0), (1, .int 0)] [] _ _ _ _ _
    refine V_iload_n 1 1 rfl rfl dX10_outcome_0 rfl ?_
    refine V_tabIn (off := 27) 28 (by decide) (by decide) (by decide) rfl dX10_outcome_1 ?_
    refine V_aload_n 29 0 rfl _ rfl rfl dX10_outcome_28 rfl ?_
    refine V_getR 32 0 10 3 26 (hRS 0 3 (by decide)) flX10_30 rfl rfl rfl (by decide) dX10_outcome_29 rfl ?_
    refine V_callV (K' := 0) (S' := 0) 35 26 3 0 [] mkX3_fishLanded lkX10_184 (by decide) rfl rfl (by decide) rfl (Nat.le_of_ble_eq_true rfl) (Nat.le_of_ble_eq_true rfl) (Nat.le_of_ble_eq_true rfl) (Nat.le_of_ble_eq_true rfl) rfl rfl dX10_outcome_32 rfl (c_X3_fishLanded_26 hRK hDg ?_)
    refine Kq_i (k' := 0) (sl' := 0) rfl rfl ?_
    refine V_ret_i rfl rfl (Nat.le_of_ble_eq_true rfl) (fun h => absurd h (by decide)) (Nat.le_of_ble_eq_true rfl) (hq) dX10_outcome_35
  · show V _ _ _ _ _ _ _ _ [(0, rf G 0), (1, .int 1)] [] _ _ _ _ _
    refine V_iload_n 1 1 rfl rfl dX10_outcome_0 rfl ?_
    refine V_tabIn (off := 35) 36 (by decide) (by decide) (by decide) rfl dX10_outcome_1 ?_
    refine V_aload_n 37 0 rfl _ rfl rfl dX10_outcome_36 rfl ?_
    refine V_getR 40 0 10 3 26 (hRS 0 3 (by decide)) flX10_30 rfl rfl rfl (by decide) dX10_outcome_37 rfl ?_
    refine V_getI 43 26 3 8 (livB E 6) hDg.2.2.2.2.2.2.2.2 flX10_171 rfl rfl rfl (by decide) dX10_outcome_40 rfl ?_
    refine V_ret_i rfl rfl (Nat.le_of_ble_eq_true rfl) (fun h => absurd h (by decide)) (Nat.le_of_ble_eq_true rfl) (hq) dX10_outcome_43
  · show V _ _ _ _ _ _ _ _ [(0, rf G 0), (1, .int 2)] [] _ _ _ _ _
    refine V_iload_n 1 1 rfl rfl dX10_outcome_0 rfl ?_
    refine V_tabIn (off := 43) 44 (by decide) (by decide) (by decide) rfl dX10_outcome_1 ?_
    refine V_aload_n 45 0 rfl _ rfl rfl dX10_outcome_44 rfl ?_
    refine V_getR 48 0 10 3 26 (hRS 0 3 (by decide)) flX10_30 rfl rfl rfl (by decide) dX10_outcome_45 rfl ?_
    refine V_callV (K' := 0) (S' := 0) 51 26 3 0 [] mkX3_fishLeft lkX10_181 (by decide) rfl rfl (by decide) rfl (Nat.le_of_ble_eq_true rfl) (Nat.le_of_ble_eq_true rfl) (Nat.le_of_ble_eq_true rfl) (Nat.le_of_ble_eq_true rfl) rfl rfl dX10_outcome_48 rfl (c_X3_fishLeft_26 hRK hDg ?_)
    refine Kq_i (k' := 0) (sl' := 0) rfl rfl ?_
    refine V_ret_i rfl rfl (Nat.le_of_ble_eq_true rfl) (fun h => absurd h (by decide)) (Nat.le_of_ble_eq_true rfl) (hq) dX10_outcome_51
  · show V _ _ _ _ _ _ _ _ [(0, rf G 0), (1, .int 3)] [] _ _ _ _ _
    refine V_iload_n 1 1 rfl rfl dX10_outcome_0 rfl ?_
    refine V_tabOut 52 (by decide) rfl dX10_outcome_1 ?_
    refine V_aload_n 53 0 rfl _ rfl rfl dX10_outcome_52 rfl ?_
    refine V_getR 56 0 10 3 26 (hRS 0 3 (by decide)) flX10_30 rfl rfl rfl (by decide) dX10_outcome_53 rfl ?_
    refine V_callV (K' := 0) (S' := 0) 59 26 3 0 [] mkX3_hatsWorn lkX10_178 (by decide) rfl rfl (by decide) rfl (Nat.le_of_ble_eq_true rfl) (Nat.le_of_ble_eq_true rfl) (Nat.le_of_ble_eq_true rfl) (Nat.le_of_ble_eq_true rfl) rfl rfl dX10_outcome_56 rfl (c_X3_hatsWorn_26 hRK hDg ?_)
    refine Kq_i (k' := 0) (sl' := 0) rfl rfl ?_
    refine V_ret_i rfl rfl (Nat.le_of_ble_eq_true rfl) (fun h => absurd h (by decide)) (Nat.le_of_ble_eq_true rfl) (hq) dX10_outcome_59
set_option maxHeartbeats 8000000 in
theorem c_X10_ahead {G : Gx} {d : Nat} {I : FI} {R : FR} {J : FJ} {Q : Po} {c l b : Nat} {K : CO} {f : DV → Int32} {D : DV} (hX : RC I R c l b K f D) {x y : Int32}  (hq : Ho I R J Q (ckW x 0 99 (ckW y 0 2 (.inl (outF (hrsD K f D x.toNatClampNeg) y.toNatClampNeg))))) : Cc G mX10_ahead (d + 60) 8 48 [rf G 0, .int x, .int y] 103 I R J Q := by
  obtain ⟨hRS, hc, hl, hb, hC, hW, hD, hI, hL⟩ := hX
  have hRK := hRS.K
  have hR3c : R 3 0 = some c := hRS 3 0 (by decide)
  have hR3l : R 3 1 = some l := hRS 3 1 (by decide)
  have hR32 : R 3 2 = some 16 := hRS 3 2 (by decide)
  have hR33 : R 3 3 = some 17 := hRS 3 3 (by decide)
  have h8 := hW.1
  have hg6 := hW.2.1
  have h6 := hW.2.2.1
  have hWD := hI.1
  have hFl := hI.1.1
  show V _ _ _ _ _ _ _ _ [(0, rf G 0), (1, .int x), (2, .int y)] [] _ _ _ _ _
  refine V_aload_n 1 0 rfl _ rfl rfl dX10_ahead_0 rfl ?_
  refine V_iload_n 2 1 rfl rfl dX10_ahead_1 rfl ?_
  refine V_iconst 3 (0) rfl dX10_ahead_2 rfl ?_
  refine V_bipush 5 (99) rfl dX10_ahead_3 rfl ?_
  refine V_callV (K' := 1) (S' := 6) 8 0 10 3 [.int x, .int 0, .int 99] mkX10_needWithin lkX10_158 (by decide) rfl rfl (by decide) rfl (Nat.le_of_ble_eq_true rfl) (Nat.le_of_ble_eq_true rfl) (Nat.le_of_ble_eq_true rfl) (Nat.le_of_ble_eq_true rfl) rfl rfl dX10_ahead_5 rfl (c_X10_needWithin (fun a5 b5 => ?_) (fun a5 => by rw [ckW_n a5] at hq; exact hq _ rfl))
  refine Kq_v (k' := 1) (sl' := 6) rfl rfl ?_
  rw [ckW_y a5 b5] at hq
  obtain ⟨n, hn, rfl⟩ := in_nI (n := 99) (by decide) a5 b5
  refine V_aload_n 9 0 rfl _ rfl rfl dX10_ahead_8 rfl ?_
  refine V_iload_n 10 2 rfl rfl dX10_ahead_9 rfl ?_
  refine V_iconst 11 (0) rfl dX10_ahead_10 rfl ?_
  refine V_iconst 12 (2) rfl dX10_ahead_11 rfl ?_
  refine V_callV (K' := 1) (S' := 6) 15 0 10 3 [.int y, .int 0, .int 2] mkX10_needWithin lkX10_158 (by decide) rfl rfl (by decide) rfl (Nat.le_of_ble_eq_true rfl) (Nat.le_of_ble_eq_true rfl) (Nat.le_of_ble_eq_true rfl) (Nat.le_of_ble_eq_true rfl) rfl rfl dX10_ahead_12 rfl (c_X10_needWithin (fun a12 b12 => ?_) (fun a12 => by rw [ckW_n a12] at hq; exact hq _ rfl))
  refine Kq_v (k' := 2) (sl' := 12) rfl rfl ?_
  rw [ckW_y a12 b12] at hq
  obtain ⟨j, hj, rfl⟩ := in_nI (n := 2) (by decide) a12 b12
  refine V_aload_n 16 0 rfl _ rfl rfl dX10_ahead_15 rfl ?_
  refine V_getR 19 0 10 3 26 (hRS 0 3 (by decide)) flX10_30 rfl rfl rfl (by decide) dX10_ahead_16 rfl ?_
  refine V_aload_n 20 0 rfl _ rfl rfl dX10_ahead_19 rfl ?_
  refine V_getR 23 0 10 2 18 (hRS 0 2 (by decide)) flX10_26 rfl rfl rfl (by decide) dX10_ahead_20 rfl ?_
  refine V_callV (K' := 0) (S' := 0) 26 26 3 1 [rf G 18] mkX3_become lkX10_252 (by decide) rfl rfl (by decide) rfl (Nat.le_of_ble_eq_true rfl) (Nat.le_of_ble_eq_true rfl) (Nat.le_of_ble_eq_true rfl) (Nat.le_of_ble_eq_true rfl) rfl rfl dX10_ahead_23 rfl (c_X3_become hRK hD (fun I1 hDg hF1 => ?_))
  refine Kq_v (k' := 2) (sl' := 12) rfl rfl ?_
  have hz1 := FrQ.C hF1
  refine V_iconst 27 (0) rfl dX10_ahead_26 rfl ?_
  refine V_istore_n 28 [(3, .int 0), (0, rf G 0), (1, .int (nI n)), (2, .int (nI j))] (by decide) rfl rfl dX10_ahead_27 rfl ?_
  rw [nI_clamp (show n < 2 ^ 31 by omega), nI_clamp (show j < 2 ^ 31 by omega)] at hq
  have L : ∀ i, i ≤ n → ∀ I1, DayC I1 26 (hrsD K f D i) → FrQ I I1 → V G mX10_ahead (d + 60) 8 48 2 12 28 [(3, .int (nI i)), (0, rf G 0), (1, .int (nI n)), (2, .int (nI j))] [] 103 I1 R J Q := by
    refine loopd n (fun I1 hDg hz1 => ?_) (fun i hi ih I1 hDg hz1 => ?_)
    · refine V_iload_n 29 0 rfl rfl dX10_ahead_28 rfl ?_
      refine V_iload_n 30 2 rfl rfl dX10_ahead_29 rfl ?_
      refine V_icmp_ge 50 33 rfl dX10_ahead_30 rfl (fun c30 => ?_) (fun c30 => absurd (Int32.le_refl _) c30)
      refine V_aload_n 51 1 rfl _ rfl rfl dX10_ahead_50 rfl ?_
      refine V_iload_n 52 3 rfl rfl dX10_ahead_51 rfl ?_
      refine V_callV (K' := 0) (S' := 0) 55 0 10 1 [.int (nI j)] mkX10_outcome lkX10_258 (by decide) rfl rfl (by decide) rfl (Nat.le_of_ble_eq_true rfl) (Nat.le_of_ble_eq_true rfl) (Nat.le_of_ble_eq_true rfl) (Nat.le_of_ble_eq_true rfl) rfl rfl dX10_ahead_52 rfl (c_X10_outcome hRS (by omega) hDg ?_)
      refine Kq_i (k' := 2) (sl' := 12) rfl rfl ?_
      refine V_ret_i rfl rfl (Nat.le_of_ble_eq_true rfl) (fun h => absurd h (by decide)) (Nat.le_of_ble_eq_true rfl) (hq I1 hz1) dX10_ahead_55
    · refine V_iload_n 29 0 rfl rfl dX10_ahead_28 rfl ?_
      refine V_iload_n 30 2 rfl rfl dX10_ahead_29 rfl ?_
      refine V_icmp_ge 50 33 rfl dX10_ahead_30 rfl (fun c30 => absurd c30 (nI_ge hi (by omega))) (fun c30 => ?_)
      refine V_aload_n 34 1 rfl _ rfl rfl dX10_ahead_33 rfl ?_
      refine V_getR 37 0 10 1 3 (hRS 0 1 (by decide)) flX10_19 rfl rfl rfl (by decide) dX10_ahead_34 rfl ?_
      refine V_aload_n 38 1 rfl _ rfl rfl dX10_ahead_37 rfl ?_
      refine V_getR 41 0 10 3 26 (hRS 0 3 (by decide)) flX10_30 rfl rfl rfl (by decide) dX10_ahead_38 rfl ?_
      obtain ⟨-, -, -, -, hC1, -, -, -, hL1⟩ := RC.fr ⟨hRS, hc, hl, hb, hC, hW, hD, hI, hL⟩ hz1
      refine V_callV (K' := 0) (S' := 0) 44 3 7 1 [rf G 26] mkX7_passHour lkX10_255 (by decide) rfl rfl (by decide) rfl (Nat.le_of_ble_eq_true rfl) (Nat.le_of_ble_eq_true rfl) (Nat.le_of_ble_eq_true rfl) (Nat.le_of_ble_eq_true rfl) rfl rfl dX10_ahead_41 rfl (c_X7_passHour hRK hR3c hR3l hR32 hR33 hc (Or.inr rfl) hl hC1 hW hDg (DI_hrs hW hL.R hI i).1 hL1 (fun I2 hD2 hF2 => ?_))
      refine Kq_v (k' := 2) (sl' := 12) rfl rfl ?_
      refine V_iinc 47 0 rfl (nI (i + 1)) [(3, .int (nI (i + 1))), (0, rf G 0), (1, .int (nI n)), (2, .int (nI j))] (nI_1 _) (by decide) rfl dX10_ahead_44 rfl ?_
      refine V_goto 28 rfl dX10_ahead_47 ?_
      exact V_lv [0, 1, 2, 3] rfl (ih I2 hD2 (hz1.tr (FrQ.P hF2 hl)))
  exact V_lv [0, 1, 2, 3] rfl (L 0 (Nat.zero_le _) I1 hDg hz1)
set_option maxHeartbeats 8000000 in
theorem c_X10_doom {G : Gx} {d : Nat} {I : FI} {R : FR} {J : FJ} {Q : Po} {c l b : Nat} {K : CO} {f : DV → Int32} {D : DV} (hX : RC I R c l b K f D) {x : Int32}  (hq : Ho I R J Q (ckN x (cM K) (.inl (dmF K f x.toNatClampNeg 200 0 D)))) : Cc G mX10_doom (d + 60) 8 48 [rf G 0, .int x] 103 I R J Q := by
  obtain ⟨hRS, hc, hl, hb, hC, hW, hD, hI, hL⟩ := hX
  have hRK := hRS.K
  have hR3c : R 3 0 = some c := hRS 3 0 (by decide)
  have hR3l : R 3 1 = some l := hRS 3 1 (by decide)
  have hR32 : R 3 2 = some 16 := hRS 3 2 (by decide)
  have hR33 : R 3 3 = some 17 := hRS 3 3 (by decide)
  have h8 := hW.1
  have hg6 := hW.2.1
  have h6 := hW.2.2.1
  have hWD := hI.1
  have hFl := hI.1.1
  show V _ _ _ _ _ _ _ _ [(0, rf G 0), (1, .int x)] [] _ _ _ _ _
  refine V_aload_n 1 0 rfl _ rfl rfl dX10_doom_0 rfl ?_
  refine V_iload_n 2 1 rfl rfl dX10_doom_1 rfl ?_
  refine V_aload_n 3 0 rfl _ rfl rfl dX10_doom_2 rfl ?_
  refine V_getR 6 0 10 1 3 (hRS 0 1 (by decide)) flX10_19 rfl rfl rfl (by decide) dX10_doom_3 rfl ?_
  refine V_getR 9 3 7 0 c hR3c flX10_85 rfl rfl rfl (by decide) dX10_doom_6 rfl ?_
  refine V_getI 12 c 2 8 (nI (cM K)) hC.2.2.1 flX10_127 rfl (ly_c hc).1 rfl (by omega) dX10_doom_9 rfl ?_
  refine V_callV (K' := 1) (S' := 6) 15 0 10 2 [.int x, .int (nI (cM K))] mkX10_needOneOf lkX10_187 (by decide) rfl rfl (by decide) rfl (Nat.le_of_ble_eq_true rfl) (Nat.le_of_ble_eq_true rfl) (Nat.le_of_ble_eq_true rfl) (Nat.le_of_ble_eq_true rfl) rfl rfl dX10_doom_12 rfl (c_X10_needOneOf (c := cM K) (by omega) (fun i12 => ?_) (fun i12 => by rw [ckN_n (by omega) i12] at hq; exact hq _ rfl))
  refine Kq_v (k' := 1) (sl' := 6) rfl rfl ?_
  rw [ckN_y (by omega) i12] at hq
  obtain ⟨m, hm, rfl⟩ := i12
  refine V_aload_n 16 0 rfl _ rfl rfl dX10_doom_15 rfl ?_
  refine V_getR 19 0 10 3 26 (hRS 0 3 (by decide)) flX10_30 rfl rfl rfl (by decide) dX10_doom_16 rfl ?_
  refine V_aload_n 20 0 rfl _ rfl rfl dX10_doom_19 rfl ?_
  refine V_getR 23 0 10 2 18 (hRS 0 2 (by decide)) flX10_26 rfl rfl rfl (by decide) dX10_doom_20 rfl ?_
  refine V_callV (K' := 0) (S' := 0) 26 26 3 1 [rf G 18] mkX3_become lkX10_252 (by decide) rfl rfl (by decide) rfl (Nat.le_of_ble_eq_true rfl) (Nat.le_of_ble_eq_true rfl) (Nat.le_of_ble_eq_true rfl) (Nat.le_of_ble_eq_true rfl) rfl rfl dX10_doom_23 rfl (c_X3_become hRK hD (fun I1 hDg hF1 => ?_))
  refine Kq_v (k' := 1) (sl' := 6) rfl rfl ?_
  have hz1 := FrQ.C hF1
  refine V_iconst 27 (0) rfl dX10_doom_26 rfl ?_
  refine V_istore_n 28 [(2, .int 0), (0, rf G 0), (1, .int (nI m))] (by decide) rfl rfl dX10_doom_27 rfl ?_
  rw [nI_clamp (show m < 2 ^ 31 by omega)] at hq
  have L : ∀ i, i ≤ 200 → ∀ I1 E, DayC I1 26 E → DI K E → FrQ I I1 → Ho I R J Q (.inl (dmF K f m (200 - i) i E)) → V G mX10_doom (d + 60) 8 48 1 6 28 [(2, .int (nI i)), (0, rf G 0), (1, .int (nI m))] [] 103 I1 R J Q := by
    refine loopd 200 (fun I1 E hDg hE hz1 hq => ?_) (fun i hi ih I1 E hDg hE hz1 hq => ?_)
    · rw [Nat.sub_self] at hq
      refine V_iload_n 29 0 rfl rfl dX10_doom_28 rfl ?_
      refine V_sipush 32 (200) rfl dX10_doom_29 rfl ?_
      refine V_icmp_ge 65 35 rfl dX10_doom_32 rfl (fun c32 => ?_) (fun c32 => absurd (by decide) c32)
      refine V_aload_n 66 1 rfl _ rfl rfl dX10_doom_65 rfl ?_
      refine V_getR 69 0 10 3 26 (hRS 0 3 (by decide)) flX10_30 rfl rfl rfl (by decide) dX10_doom_66 rfl ?_
      refine V_iload_n 70 2 rfl rfl dX10_doom_69 rfl ?_
      refine V_callV (K' := 0) (S' := 0) 73 26 3 1 [.int (nI m)] mkX3_lives lkX10_237 (by decide) rfl rfl (by decide) rfl (Nat.le_of_ble_eq_true rfl) (Nat.le_of_ble_eq_true rfl) (Nat.le_of_ble_eq_true rfl) (Nat.le_of_ble_eq_true rfl) rfl rfl dX10_doom_70 rfl (c_X3_lives_26 hRK hDg hE.1.1 (by omega) (fun e1 => ?_) (fun e1 => ?_))
      · refine Kq_i (k' := 1) (sl' := 6) rfl rfl ?_
        have e2 : ¬ E (30 + m) = 0 := by rw [e1]; decide
        rw [dmF, if_neg e2] at hq
        refine V_if_eq 80 76 rfl dX10_doom_73 rfl (fun c73 => absurd c73 (by decide)) (fun c73 => ?_)
        refine V_iconst 77 (-1) rfl dX10_doom_76 rfl ?_
        refine V_goto 83 rfl dX10_doom_77 ?_
        refine V_ret_i rfl rfl (Nat.le_of_ble_eq_true rfl) (fun h => absurd h (by decide)) (Nat.le_of_ble_eq_true rfl) (hq I1 hz1) dX10_doom_83
      · refine Kq_i (k' := 1) (sl' := 6) rfl rfl ?_
        rw [dmF, if_pos e1] at hq
        refine V_if_eq 80 76 rfl dX10_doom_73 rfl (fun c73 => ?_) (fun c73 => absurd c73 (by decide))
        refine V_sipush 83 (200) rfl dX10_doom_80 rfl ?_
        refine V_ret_i rfl rfl (Nat.le_of_ble_eq_true rfl) (fun h => absurd h (by decide)) (Nat.le_of_ble_eq_true rfl) (hq I1 hz1) dX10_doom_83
    · rw [show 200 - i = (200 - (i + 1)) + 1 by omega] at hq
      refine V_iload_n 29 0 rfl rfl dX10_doom_28 rfl ?_
      refine V_sipush 32 (200) rfl dX10_doom_29 rfl ?_
      refine V_icmp_ge 65 35 rfl dX10_doom_32 rfl (fun c32 => absurd c32 (nI_ge hi (by decide))) (fun c32 => ?_)
      refine V_aload_n 36 1 rfl _ rfl rfl dX10_doom_35 rfl ?_
      refine V_getR 39 0 10 3 26 (hRS 0 3 (by decide)) flX10_30 rfl rfl rfl (by decide) dX10_doom_36 rfl ?_
      refine V_iload_n 40 2 rfl rfl dX10_doom_39 rfl ?_
      refine V_callV (K' := 0) (S' := 0) 43 26 3 1 [.int (nI m)] mkX3_lives lkX10_237 (by decide) rfl rfl (by decide) rfl (Nat.le_of_ble_eq_true rfl) (Nat.le_of_ble_eq_true rfl) (Nat.le_of_ble_eq_true rfl) (Nat.le_of_ble_eq_true rfl) rfl rfl dX10_doom_40 rfl (c_X3_lives_26 hRK hDg hE.1.1 (by omega) (fun e1 => ?_) (fun e1 => ?_))
      · refine Kq_i (k' := 1) (sl' := 6) rfl rfl ?_
        have e2 : ¬ E (30 + m) = 0 := by rw [e1]; decide
        rw [dmF, if_neg e2] at hq
        refine V_if_ne 48 46 rfl dX10_doom_43 rfl (fun c43 => ?_) (fun c43 => absurd c43 (by decide))
        refine V_aload_n 49 1 rfl _ rfl rfl dX10_doom_48 rfl ?_
        refine V_getR 52 0 10 1 3 (hRS 0 1 (by decide)) flX10_19 rfl rfl rfl (by decide) dX10_doom_49 rfl ?_
        refine V_aload_n 53 1 rfl _ rfl rfl dX10_doom_52 rfl ?_
        refine V_getR 56 0 10 3 26 (hRS 0 3 (by decide)) flX10_30 rfl rfl rfl (by decide) dX10_doom_53 rfl ?_
        obtain ⟨-, -, -, -, hC1, -, -, -, hL1⟩ := RC.fr ⟨hRS, hc, hl, hb, hC, hW, hD, hI, hL⟩ hz1
        refine V_callV (K' := 0) (S' := 0) 59 3 7 1 [rf G 26] mkX7_passHour lkX10_255 (by decide) rfl rfl (by decide) rfl (Nat.le_of_ble_eq_true rfl) (Nat.le_of_ble_eq_true rfl) (Nat.le_of_ble_eq_true rfl) (Nat.le_of_ble_eq_true rfl) rfl rfl dX10_doom_56 rfl (c_X7_passHour hRK hR3c hR3l hR32 hR33 hc (Or.inr rfl) hl hC1 hW hDg hE.1 hL1 (fun I2 hD2 hF2 => ?_))
        refine Kq_v (k' := 1) (sl' := 6) rfl rfl ?_
        refine V_iinc 62 0 rfl (nI (i + 1)) [(2, .int (nI (i + 1))), (0, rf G 0), (1, .int (nI m))] (nI_1 _) (by decide) rfl dX10_doom_59 rfl ?_
        refine V_goto 28 rfl dX10_doom_62 ?_
        exact V_lv [0, 1, 2] rfl (ih I2 _ hD2 (DI_pass hW hL.R hE) (hz1.tr (FrQ.P hF2 hl)) hq)
      · refine Kq_i (k' := 1) (sl' := 6) rfl rfl ?_
        rw [dmF, if_pos e1] at hq
        refine V_if_ne 48 46 rfl dX10_doom_43 rfl (fun c43 => absurd c43 (by decide)) (fun c43 => ?_)
        refine V_iload_n 47 0 rfl rfl dX10_doom_46 rfl ?_
        refine V_ret_i rfl rfl (Nat.le_of_ble_eq_true rfl) (fun h => absurd h (by decide)) (Nat.le_of_ble_eq_true rfl) (hq I1 hz1) dX10_doom_47
  exact V_lv [0, 1, 2] rfl (L 0 (Nat.zero_le _) I1 D hDg hI hz1 hq)
