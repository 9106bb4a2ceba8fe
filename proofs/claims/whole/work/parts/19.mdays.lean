/-! ===== the reference: days ===== -/
theorem nI_z (b : Nat) : (0 : Int32) + nI b = nI b := by rw [show (0 : Int32) = nI 0 from rfl, nI_add, Nat.zero_add]
def CoastM (I : FI) (K : CO) : Prop := I 69 21 = nI (cH K) ∧ I 69 22 = nI (cG K) ∧ I 69 23 = nI (cM K) ∧ (∀ h, h < cH K → I 76 (2 * h) = cHat K (2 * h) ∧ I 76 (2 * h + 1) = cHat K (2 * h + 1)) ∧ (∀ g, g < cG K → I 77 (2 * g) = cGr K (2 * g) ∧ I 77 (2 * g + 1) = cGr K (2 * g + 1)) ∧ (∀ m, m < cM K → I 78 m = cBt K m) ∧ (∀ m, m < cM K → I 79 m = oI (cHr K m))
theorem CoastM.fr {I I' : FI} {K : CO} (h : CoastM I K) (h1 : I' 69 21 = I 69 21) (h2 : I' 69 22 = I 69 22) (h3 : I' 69 23 = I 69 23) (hf : ∀ a, 76 ≤ a → a ≤ 79 → I' a = I a) : CoastM I' K := by
  unfold CoastM at *
  rw [h1, h2, h3, hf 76 (by omega) (by omega), hf 77 (by omega) (by omega), hf 78 (by omega) (by omega), hf 79 (by omega) (by omega)]
  exact h
def DayM (I : FI) (D : DV) : Prop := ∀ k, k < 51 → I 89 k = D k
theorem DayM_u {I : FI} {D : DV} {k : Nat} {v : Int32} (h : DayM I D) (hk : k < 51) : DayM (up2 I 89 k v) (upd D k v) := by
  intro j hj
  rw [up2_s]
  by_cases e : j = k
  · subst e; rw [upd_s, upd_s]
  · rw [upd_n e, upd_n e]; exact h j hj
/-- what the reference's days change: stack, facts, s, seas -/
def FrS (I I' : FI) : Prop := ∀ a, a ≠ 84 → a ≠ 85 → a ≠ 89 → a ≠ 91 → I' a = I a
theorem FrS.rf {I : FI} : FrS I I := fun _ _ _ _ _ => rfl
theorem FrS.tr {I I1 I2 : FI} (h : FrS I I1) (h2 : FrS I1 I2) : FrS I I2 := fun a b c e f => (h2 a b c e f).trans (h a b c e f)
theorem FrS.up {I I' : FI} {a k : Nat} {v : Int32} (h : FrS I I') (ha : a = 84 ∨ a = 85 ∨ a = 89 ∨ a = 91) : FrS I (up2 I' a k v) := fun b h1 h2 h3 h4 => by
  rw [up2_n _ _ _ (by omega)]; exact h b h1 h2 h3 h4
theorem CoastM.frS {I I' : FI} {K : CO} (h : CoastM I K) (hf : FrS I I') : CoastM I' K := h.fr (by rw [hf 69 (by decide) (by decide) (by decide) (by decide)]) (by rw [hf 69 (by decide) (by decide) (by decide) (by decide)]) (by rw [hf 69 (by decide) (by decide) (by decide) (by decide)]) (fun a h1 h2 => hf a (by omega) (by omega) (by omega) (by omega))
/-- nobody beyond the men -/
def Bey (K : CO) (D : DV) : Prop := ∀ m, cM K ≤ m → m < 6 → D m = -1 ∧ D (6 + m) = -1 ∧ D (30 + m) = 0 ∧ D (24 + m) = 0
theorem wearF_to {D : DV} {h : Nat} (hh : h < 2 ^ 31) {n : Nat} (hn : n ≤ 6) (hB : ∀ m, n ≤ m → m < 6 → D m = -1) : wearF D (nI h) 6 0 = wearF D (nI h) n 0 := by
  have k1 : ∀ k i, i + k = 6 → n ≤ i → wearF D (nI h) k i = -1 := by
    intro k
    induction k with
    | zero => intro i _ _; rfl
    | succ k ih => intro i e1 e2; rw [wearF, hB i e2 (by omega), if_neg (fun q => nI_ne hh q.symm)]; exact ih (i + 1) (by omega) (by omega)
  have k2 : ∀ k i, i + k = n → wearF D (nI h) (6 - i) i = wearF D (nI h) k i := by
    intro k
    induction k with
    | zero => intro i e; exact k1 _ _ (by omega) (by omega)
    | succ k ih =>
      intro i e
      rw [show 6 - i = (6 - (i + 1)) + 1 by omega, wearF, wearF, ih (i + 1) (by omega)]
  exact k2 n 0 (by omega)
theorem mAtF_to {D : DV} {g : Nat} (hg : g < 2 ^ 31) {n : Nat} (hB : ∀ m, n ≤ m → m < 6 → D (6 + m) = -1) : ∀ k, n ≤ k → k ≤ 6 → mAtF D (nI g) k = mAtF D (nI g) n := by
  intro k
  induction k with
  | zero => intro h _; rw [show n = 0 by omega]
  | succ k ih =>
    intro h h2
    by_cases e : n = k + 1
    · subst e; rfl
    · rw [mAtF, hB k (by omega) (by omega), if_neg (fun q => nI_ne hg q.symm), ih (by omega) (by omega), Int32.or_zero]
theorem seaF_to {D : DV} {n : Nat} (hB : ∀ m, n ≤ m → m < 6 → D (6 + m) = -1) : ∀ k, n ≤ k → k ≤ 6 → seaF D k = seaF D n := by
  intro k
  induction k with
  | zero => intro h _; rw [show n = 0 by omega]
  | succ k ih =>
    intro h h2
    by_cases e : n = k + 1
    · subst e; rfl
    · rw [seaF, hB k (by omega) (by omega), if_pos rfl, ih (by omega) (by omega), Int32.or_zero]
theorem wornF_to {D : DV} {n : Nat} (hB : ∀ m, n ≤ m → m < 6 → D m = -1) : ∀ k, n ≤ k → k ≤ 6 → wornF D k = wornF D n := by
  intro k
  induction k with
  | zero => intro h _; rw [show n = 0 by omega]
  | succ k ih =>
    intro h h2
    by_cases e : n = k + 1
    · subst e; rfl
    · rw [wornF, hB k (by omega) (by omega), if_pos rfl, ih (by omega) (by omega), Int32.or_zero]
theorem sumF_to {D : DV} {b n N : Nat} (hB : ∀ m, n ≤ m → m < N → D (b + m) = 0) : ∀ k, n ≤ k → k ≤ N → sumF D b k = sumF D b n := by
  intro k
  induction k with
  | zero => intro h _; rw [show n = 0 by omega]
  | succ k ih =>
    intro h h2
    by_cases e : n = k + 1
    · subst e; rfl
    · rw [sumF, hB k (by omega) (by omega), ih (by omega) (by omega), Int32.add_zero]
theorem livB_to {D : DV} {n : Nat} (hB : ∀ m, n ≤ m → m < 6 → D (30 + m) = 0) : ∀ k, n ≤ k → k ≤ 6 → livB D k = livB D n := by
  intro k
  induction k with
  | zero => intro h _; rw [show n = 0 by omega]
  | succ k ih =>
    intro h h2
    by_cases e : n = k + 1
    · subst e; rfl
    · rw [livB, hB k (by omega) (by omega), ih (by omega) (by omega)]
      have : (0 : Int32) <<< (nI k &&& 31) = 0 := by
        have h5 : ∀ q, q < 6 → (0 : Int32) <<< (nI q &&& 31) = 0 := by decide +kernel
        exact h5 k (by omega)
      rw [this, Int32.or_zero]
def onF (x : Int32) : Nat → Int32
  | 0 => 0
  | k + 1 => onF x k + ((x >>> (nI k &&& 31)) &&& 1)
def o6 (b0 b1 b2 b3 b4 b5 : Bool) : Int32 := (((((((0 : Int32) ||| (if b0 = true then (1 : Int32) <<< (nI 0 &&& 31) else 0)) ||| (if b1 = true then (1 : Int32) <<< (nI 1 &&& 31) else 0)) ||| (if b2 = true then (1 : Int32) <<< (nI 2 &&& 31) else 0)) ||| (if b3 = true then (1 : Int32) <<< (nI 3 &&& 31) else 0)) ||| (if b4 = true then (1 : Int32) <<< (nI 4 &&& 31) else 0)) ||| (if b5 = true then (1 : Int32) <<< (nI 5 &&& 31) else 0))
theorem o6_on : ∀ b0 b1 b2 b3 b4 b5 : Bool, onF (o6 b0 b1 b2 b3 b4 b5) 8 = bcI (o6 b0 b1 b2 b3 b4 b5) := by decide +kernel
theorem on_bc {D : DV} {g : Int32} : onF (mAtF D g 6) 8 = bcI (mAtF D g 6) := by
  have e : mAtF D g 6 = o6 (decide (D 6 = g)) (decide (D 7 = g)) (decide (D 8 = g)) (decide (D 9 = g)) (decide (D 10 = g)) (decide (D 11 = g)) := by
    simp only [mAtF, o6, decide_eq_true_eq]
  rw [e, o6_on]
set_option maxHeartbeats 4000000 in
theorem c_X11_ones {G : Gx} {d : Nat} {I : FI} {R : FR} {J : FJ} {Q : Po} {x : Int32} (hq : Q (.inl (some (.int (onF x 8)))) 103 I R J) : Cc G mX11_ones d 0 0 [.int x] 103 I R J Q := by
  have L : ∀ i, i ≤ 8 → V G mX11_ones d 0 0 0 0 4 [(2, .int (nI i)), (1, .int (onF x i)), (0, .int x)] [] 103 I R J Q := by
    refine loopd 8 ?_ (fun i hi ih => ?_)
    · refine V_iload_n 5 0 rfl rfl dX11_ones_4 rfl ?_
      refine V_bipush 7 (8) rfl dX11_ones_5 rfl ?_
      refine V_icmp_ge 24 10 rfl dX11_ones_7 rfl (fun c7 => ?_) (fun c7 => absurd (by decide) c7)
      refine V_iload_n 25 1 rfl rfl dX11_ones_24 rfl ?_
      refine V_ret_i rfl rfl (Nat.le_refl _) (fun h => absurd h (by decide)) (Nat.le_refl _) (hq) dX11_ones_25
    · refine V_iload_n 5 0 rfl rfl dX11_ones_4 rfl ?_
      refine V_bipush 7 (8) rfl dX11_ones_5 rfl ?_
      refine V_icmp_ge 24 10 rfl dX11_ones_7 rfl (fun c7 => absurd c7 (nI_ge hi (by decide))) (fun c7 => ?_)
      refine V_iload_n 11 1 rfl rfl dX11_ones_10 rfl ?_
      refine V_iload_n 12 2 rfl rfl dX11_ones_11 rfl ?_
      refine V_iload_n 13 0 rfl rfl dX11_ones_12 rfl ?_
      refine V_ishr 14 dX11_ones_13 rfl ?_
      refine V_iconst 15 (1) rfl dX11_ones_14 rfl ?_
      refine V_iand 16 dX11_ones_15 rfl ?_
      refine V_iadd 17 dX11_ones_16 rfl ?_
      refine V_rw (rfl) ?_
      refine V_istore_n 18 [(1, .int (onF x (i + 1))), (2, .int (nI i)), (0, .int x)] (by decide) rfl rfl dX11_ones_17 rfl ?_
      refine V_iinc 21 1 rfl (nI (i + 1)) [(2, .int (nI (i + 1))), (1, .int (onF x (i + 1))), (0, .int x)] (nI_1 _) (by decide) rfl dX11_ones_18 rfl ?_
      refine V_goto 4 rfl dX11_ones_21 ?_
      exact V_lv [0, 1, 2] rfl ih
  show V _ _ _ _ _ _ _ _ [(0, .int x)] [] _ _ _ _ _
  refine V_iconst 1 (0) rfl dX11_ones_0 rfl ?_
  refine V_istore_n 2 [(1, .int 0), (0, .int x)] (by decide) rfl rfl dX11_ones_1 rfl ?_
  refine V_iconst 3 (0) rfl dX11_ones_2 rfl ?_
  refine V_istore_n 4 [(2, .int 0), (1, .int 0), (0, .int x)] (by decide) rfl rfl dX11_ones_3 rfl ?_
  exact V_lv [0, 1, 2] rfl (L 0 (by decide))
set_option maxHeartbeats 4000000 in
theorem c_X11_menAt {G : Gx} {d : Nat} {I : FI} {R : FR} {J : FJ} {Q : Po} (hRM : ∀ k, R 69 k = refM k) {K : CO} {D : DV} {g : Int32} (hK : CoastM I K) (h6 : cM K ≤ 6) (hM : DayM I D) (hq : Q (.inl (some (.int (mAtF D g (cM K))))) 103 I R J) : Cc G mX11_menAt d 0 0 [rf G 69, .int g] 103 I R J Q := by
  have L : ∀ i, i ≤ cM K → V G mX11_menAt d 0 0 0 0 4 [(3, .int (nI i)), (2, .int (mAtF D g i)), (0, rf G 69), (1, .int g)] [] 103 I R J Q := by
    refine loopd (cM K) ?_ (fun i hi ih => ?_)
    · refine V_iload_n 5 0 rfl rfl dX11_menAt_4 rfl ?_
      refine V_aload_n 6 2 rfl _ rfl rfl dX11_menAt_5 rfl ?_
      refine V_getI 9 69 11 23 (nI (cM K)) hK.2.2.1 flX11_181 rfl rfl rfl (by decide) dX11_menAt_6 rfl ?_
      refine V_icmp_ge 41 12 rfl dX11_menAt_9 rfl (fun c9 => ?_) (fun c9 => absurd (Int32.le_refl _) c9)
      refine V_iload_n 42 1 rfl rfl dX11_menAt_41 rfl ?_
      refine V_ret_i rfl rfl (Nat.le_refl _) (fun h => absurd h (by decide)) (Nat.le_refl _) (hq) dX11_menAt_42
    · refine V_iload_n 5 0 rfl rfl dX11_menAt_4 rfl ?_
      refine V_aload_n 6 2 rfl _ rfl rfl dX11_menAt_5 rfl ?_
      refine V_getI 9 69 11 23 (nI (cM K)) hK.2.2.1 flX11_181 rfl rfl rfl (by decide) dX11_menAt_6 rfl ?_
      refine V_icmp_ge 41 12 rfl dX11_menAt_9 rfl (fun c9 => absurd c9 (nI_ge hi (by omega))) (fun c9 => ?_)
      refine V_iload_n 13 1 rfl rfl dX11_menAt_12 rfl ?_
      refine V_aload_n 14 2 rfl _ rfl rfl dX11_menAt_13 rfl ?_
      refine V_getR 17 69 11 41 89 (hRM 41) flX11_74 rfl rfl rfl (by decide) dX11_menAt_14 rfl ?_
      refine V_bipush 19 (6) rfl dX11_menAt_17 rfl ?_
      refine V_iload_n 20 0 rfl rfl dX11_menAt_19 rfl ?_
      refine V_iadd 21 dX11_menAt_20 rfl ?_
      refine V_rw (nI_add 6 i) ?_
      refine V_ialdN 22 89 51 (6 + i) (D ((6 + i))) (hM ((6 + i)) (by omega)) (by omega) (by decide) rfl (by decide) dX11_menAt_21 rfl ?_
      refine V_iload_n 23 3 rfl rfl dX11_menAt_22 rfl ?_
      refine V_icmp_ne 32 26 rfl dX11_menAt_23 rfl (fun c23 => ?_) (fun c23 => ?_)
      · refine V_iconst 33 (0) rfl dX11_menAt_32 rfl ?_
        refine V_ior 34 dX11_menAt_33 rfl ?_
        refine V_rw (show _ = mAtF D g (i + 1) from by rw [mAtF]; first | rw [if_pos c23] | rw [if_neg c23]) ?_
        refine V_istore_n 35 [(2, .int (mAtF D g (i + 1))), (3, .int (nI i)), (0, rf G 69), (1, .int g)] (by decide) rfl rfl dX11_menAt_34 rfl ?_
        refine V_iinc 38 1 rfl (nI (i + 1)) [(3, .int (nI (i + 1))), (2, .int (mAtF D g (i + 1))), (0, rf G 69), (1, .int g)] (nI_1 _) (by decide) rfl dX11_menAt_35 rfl ?_
        refine V_goto 4 rfl dX11_menAt_38 ?_
        exact V_lv [0, 1, 2, 3] rfl ih
      · refine V_iconst 27 (1) rfl dX11_menAt_26 rfl ?_
        refine V_iload_n 28 0 rfl rfl dX11_menAt_27 rfl ?_
        refine V_ishl 29 dX11_menAt_28 rfl ?_
        refine V_goto 33 rfl dX11_menAt_29 ?_
        refine V_ior 34 dX11_menAt_33 rfl ?_
        refine V_rw (show _ = mAtF D g (i + 1) from by rw [mAtF]; first | rw [if_pos c23] | rw [if_neg c23]) ?_
        refine V_istore_n 35 [(2, .int (mAtF D g (i + 1))), (3, .int (nI i)), (0, rf G 69), (1, .int g)] (by decide) rfl rfl dX11_menAt_34 rfl ?_
        refine V_iinc 38 1 rfl (nI (i + 1)) [(3, .int (nI (i + 1))), (2, .int (mAtF D g (i + 1))), (0, rf G 69), (1, .int g)] (nI_1 _) (by decide) rfl dX11_menAt_35 rfl ?_
        refine V_goto 4 rfl dX11_menAt_38 ?_
        exact V_lv [0, 1, 2, 3] rfl ih
  show V _ _ _ _ _ _ _ _ [(0, rf G 69), (1, .int g)] [] _ _ _ _ _
  refine V_iconst 1 (0) rfl dX11_menAt_0 rfl ?_
  refine V_istore_n 2 [(2, .int 0), (0, rf G 69), (1, .int g)] (by decide) rfl rfl dX11_menAt_1 rfl ?_
  refine V_iconst 3 (0) rfl dX11_menAt_2 rfl ?_
  refine V_istore_n 4 [(3, .int 0), (2, .int 0), (0, rf G 69), (1, .int g)] (by decide) rfl rfl dX11_menAt_3 rfl ?_
  exact V_lv [0, 1, 2, 3] rfl (L 0 (Nat.zero_le _))
set_option maxHeartbeats 4000000 in
theorem c_X11_livingNow {G : Gx} {d : Nat} {I : FI} {R : FR} {J : FJ} {Q : Po} (hRM : ∀ k, R 69 k = refM k) {K : CO} {D : DV}  (hK : CoastM I K) (h6 : cM K ≤ 6) (hM : DayM I D) (hq : Q (.inl (some (.int (livB D (cM K))))) 103 I R J) : Cc G mX11_livingNow d 0 0 [rf G 69] 103 I R J Q := by
  have L : ∀ i, i ≤ cM K → V G mX11_livingNow d 0 0 0 0 4 [(2, .int (nI i)), (1, .int (livB D i)), (0, rf G 69)] [] 103 I R J Q := by
    refine loopd (cM K) ?_ (fun i hi ih => ?_)
    · refine V_iload_n 5 0 rfl rfl dX11_livingNow_4 rfl ?_
      refine V_aload_n 6 2 rfl _ rfl rfl dX11_livingNow_5 rfl ?_
      refine V_getI 9 69 11 23 (nI (cM K)) hK.2.2.1 flX11_181 rfl rfl rfl (by decide) dX11_livingNow_6 rfl ?_
      refine V_icmp_ge 32 12 rfl dX11_livingNow_9 rfl (fun c9 => ?_) (fun c9 => absurd (Int32.le_refl _) c9)
      refine V_iload_n 33 1 rfl rfl dX11_livingNow_32 rfl ?_
      refine V_ret_i rfl rfl (Nat.le_refl _) (fun h => absurd h (by decide)) (Nat.le_refl _) (hq) dX11_livingNow_33
    · refine V_iload_n 5 0 rfl rfl dX11_livingNow_4 rfl ?_
      refine V_aload_n 6 2 rfl _ rfl rfl dX11_livingNow_5 rfl ?_
      refine V_getI 9 69 11 23 (nI (cM K)) hK.2.2.1 flX11_181 rfl rfl rfl (by decide) dX11_livingNow_6 rfl ?_
      refine V_icmp_ge 32 12 rfl dX11_livingNow_9 rfl (fun c9 => absurd c9 (nI_ge hi (by omega))) (fun c9 => ?_)
      refine V_iload_n 13 1 rfl rfl dX11_livingNow_12 rfl ?_
      refine V_aload_n 14 2 rfl _ rfl rfl dX11_livingNow_13 rfl ?_
      refine V_getR 17 69 11 41 89 (hRM 41) flX11_74 rfl rfl rfl (by decide) dX11_livingNow_14 rfl ?_
      refine V_bipush 19 (30) rfl dX11_livingNow_17 rfl ?_
      refine V_iload_n 20 0 rfl rfl dX11_livingNow_19 rfl ?_
      refine V_iadd 21 dX11_livingNow_20 rfl ?_
      refine V_rw (nI_add 30 i) ?_
      refine V_ialdN 22 89 51 (30 + i) (D ((30 + i))) (hM ((30 + i)) (by omega)) (by omega) (by decide) rfl (by decide) dX11_livingNow_21 rfl ?_
      refine V_iload_n 23 0 rfl rfl dX11_livingNow_22 rfl ?_
      refine V_ishl 24 dX11_livingNow_23 rfl ?_
      refine V_ior 25 dX11_livingNow_24 rfl ?_
      refine V_rw (rfl) ?_
      refine V_istore_n 26 [(1, .int (livB D (i + 1))), (2, .int (nI i)), (0, rf G 69)] (by decide) rfl rfl dX11_livingNow_25 rfl ?_
      refine V_iinc 29 1 rfl (nI (i + 1)) [(2, .int (nI (i + 1))), (1, .int (livB D (i + 1))), (0, rf G 69)] (nI_1 _) (by decide) rfl dX11_livingNow_26 rfl ?_
      refine V_goto 4 rfl dX11_livingNow_29 ?_
      exact V_lv [0, 1, 2] rfl ih
  show V _ _ _ _ _ _ _ _ [(0, rf G 69)] [] _ _ _ _ _
  refine V_iconst 1 (0) rfl dX11_livingNow_0 rfl ?_
  refine V_istore_n 2 [(1, .int 0), (0, rf G 69)] (by decide) rfl rfl dX11_livingNow_1 rfl ?_
  refine V_iconst 3 (0) rfl dX11_livingNow_2 rfl ?_
  refine V_istore_n 4 [(2, .int 0), (1, .int 0), (0, rf G 69)] (by decide) rfl rfl dX11_livingNow_3 rfl ?_
  exact V_lv [0, 1, 2] rfl (L 0 (Nat.zero_le _))
set_option maxHeartbeats 4000000 in
theorem c_X11_wornNow {G : Gx} {d : Nat} {I : FI} {R : FR} {J : FJ} {Q : Po} (hRM : ∀ k, R 69 k = refM k) {K : CO} {D : DV}  (hK : CoastM I K) (h6 : cM K ≤ 6) (hM : DayM I D) (hq : Q (.inl (some (.int (wornF D (cM K))))) 103 I R J) : Cc G mX11_wornNow d 0 0 [rf G 69] 103 I R J Q := by
  have L : ∀ i, i ≤ cM K → V G mX11_wornNow d 0 0 0 0 4 [(2, .int (nI i)), (1, .int (wornF D i)), (0, rf G 69)] [] 103 I R J Q := by
    refine loopd (cM K) ?_ (fun i hi ih => ?_)
    · refine V_iload_n 5 0 rfl rfl dX11_wornNow_4 rfl ?_
      refine V_aload_n 6 2 rfl _ rfl rfl dX11_wornNow_5 rfl ?_
      refine V_getI 9 69 11 23 (nI (cM K)) hK.2.2.1 flX11_181 rfl rfl rfl (by decide) dX11_wornNow_6 rfl ?_
      refine V_icmp_ge 47 12 rfl dX11_wornNow_9 rfl (fun c9 => ?_) (fun c9 => absurd (Int32.le_refl _) c9)
      refine V_iload_n 48 1 rfl rfl dX11_wornNow_47 rfl ?_
      refine V_ret_i rfl rfl (Nat.le_refl _) (fun h => absurd h (by decide)) (Nat.le_refl _) (hq) dX11_wornNow_48
    · refine V_iload_n 5 0 rfl rfl dX11_wornNow_4 rfl ?_
      refine V_aload_n 6 2 rfl _ rfl rfl dX11_wornNow_5 rfl ?_
      refine V_getI 9 69 11 23 (nI (cM K)) hK.2.2.1 flX11_181 rfl rfl rfl (by decide) dX11_wornNow_6 rfl ?_
      refine V_icmp_ge 47 12 rfl dX11_wornNow_9 rfl (fun c9 => absurd c9 (nI_ge hi (by omega))) (fun c9 => ?_)
      refine V_iload_n 13 1 rfl rfl dX11_wornNow_12 rfl ?_
      refine V_aload_n 14 2 rfl _ rfl rfl dX11_wornNow_13 rfl ?_
      refine V_getR 17 69 11 41 89 (hRM 41) flX11_74 rfl rfl rfl (by decide) dX11_wornNow_14 rfl ?_
      refine V_iconst 18 (0) rfl dX11_wornNow_17 rfl ?_
      refine V_iload_n 19 0 rfl rfl dX11_wornNow_18 rfl ?_
      refine V_iadd 20 dX11_wornNow_19 rfl ?_
      refine V_rw (nI_z _) ?_
      refine V_ialdN 21 89 51 i (D i) (hM (i) (by omega)) (by omega) (by decide) rfl (by decide) dX11_wornNow_20 rfl ?_
      refine V_iconst 22 (-1) rfl dX11_wornNow_21 rfl ?_
      refine V_icmp_ne 29 25 rfl dX11_wornNow_22 rfl (fun c22 => ?_) (fun c22 => ?_)
      · refine V_iconst 30 (1) rfl dX11_wornNow_29 rfl ?_
        refine V_aload_n 31 2 rfl _ rfl rfl dX11_wornNow_30 rfl ?_
        refine V_getR 34 69 11 41 89 (hRM 41) flX11_74 rfl rfl rfl (by decide) dX11_wornNow_31 rfl ?_
        refine V_iconst 35 (0) rfl dX11_wornNow_34 rfl ?_
        refine V_iload_n 36 0 rfl rfl dX11_wornNow_35 rfl ?_
        refine V_iadd 37 dX11_wornNow_36 rfl ?_
        refine V_rw (nI_z _) ?_
        refine V_ialdN 38 89 51 i (D i) (hM (i) (by omega)) (by omega) (by decide) rfl (by decide) dX11_wornNow_37 rfl ?_
        refine V_ishl 39 dX11_wornNow_38 rfl ?_
        refine V_ior 40 dX11_wornNow_39 rfl ?_
        refine V_rw (show _ = wornF D (i + 1) from by rw [wornF]; first | rw [if_pos c22] | rw [if_neg c22]) ?_
        refine V_istore_n 41 [(1, .int (wornF D (i + 1))), (2, .int (nI i)), (0, rf G 69)] (by decide) rfl rfl dX11_wornNow_40 rfl ?_
        refine V_iinc 44 1 rfl (nI (i + 1)) [(2, .int (nI (i + 1))), (1, .int (wornF D (i + 1))), (0, rf G 69)] (nI_1 _) (by decide) rfl dX11_wornNow_41 rfl ?_
        refine V_goto 4 rfl dX11_wornNow_44 ?_
        exact V_lv [0, 1, 2] rfl ih
      · refine V_iconst 26 (0) rfl dX11_wornNow_25 rfl ?_
        refine V_goto 39 rfl dX11_wornNow_26 ?_
        refine V_ior 40 dX11_wornNow_39 rfl ?_
        refine V_rw (show _ = wornF D (i + 1) from by rw [wornF]; first | rw [if_pos c22] | rw [if_neg c22]) ?_
        refine V_istore_n 41 [(1, .int (wornF D (i + 1))), (2, .int (nI i)), (0, rf G 69)] (by decide) rfl rfl dX11_wornNow_40 rfl ?_
        refine V_iinc 44 1 rfl (nI (i + 1)) [(2, .int (nI (i + 1))), (1, .int (wornF D (i + 1))), (0, rf G 69)] (nI_1 _) (by decide) rfl dX11_wornNow_41 rfl ?_
        refine V_goto 4 rfl dX11_wornNow_44 ?_
        exact V_lv [0, 1, 2] rfl ih
  show V _ _ _ _ _ _ _ _ [(0, rf G 69)] [] _ _ _ _ _
  refine V_iconst 1 (0) rfl dX11_wornNow_0 rfl ?_
  refine V_istore_n 2 [(1, .int 0), (0, rf G 69)] (by decide) rfl rfl dX11_wornNow_1 rfl ?_
  refine V_iconst 3 (0) rfl dX11_wornNow_2 rfl ?_
  refine V_istore_n 4 [(2, .int 0), (1, .int 0), (0, rf G 69)] (by decide) rfl rfl dX11_wornNow_3 rfl ?_
  exact V_lv [0, 1, 2] rfl (L 0 (Nat.zero_le _))
set_option maxHeartbeats 4000000 in
theorem c_X11_atSea {G : Gx} {d : Nat} {I : FI} {R : FR} {J : FJ} {Q : Po} (hRM : ∀ k, R 69 k = refM k) {K : CO} {D : DV}  (hK : CoastM I K) (h6 : cM K ≤ 6) (hM : DayM I D) (hq : Q (.inl (some (.int (seaF D (cM K))))) 103 I R J) : Cc G mX11_atSea d 0 0 [rf G 69] 103 I R J Q := by
  have L : ∀ i, i ≤ cM K → V G mX11_atSea d 0 0 0 0 4 [(2, .int (nI i)), (1, .int (seaF D i)), (0, rf G 69)] [] 103 I R J Q := by
    refine loopd (cM K) ?_ (fun i hi ih => ?_)
    · refine V_iload_n 5 0 rfl rfl dX11_atSea_4 rfl ?_
      refine V_aload_n 6 2 rfl _ rfl rfl dX11_atSea_5 rfl ?_
      refine V_getI 9 69 11 23 (nI (cM K)) hK.2.2.1 flX11_181 rfl rfl rfl (by decide) dX11_atSea_6 rfl ?_
      refine V_icmp_ge 41 12 rfl dX11_atSea_9 rfl (fun c9 => ?_) (fun c9 => absurd (Int32.le_refl _) c9)
      refine V_iload_n 42 1 rfl rfl dX11_atSea_41 rfl ?_
      refine V_ret_i rfl rfl (Nat.le_refl _) (fun h => absurd h (by decide)) (Nat.le_refl _) (hq) dX11_atSea_42
    · refine V_iload_n 5 0 rfl rfl dX11_atSea_4 rfl ?_
      refine V_aload_n 6 2 rfl _ rfl rfl dX11_atSea_5 rfl ?_
      refine V_getI 9 69 11 23 (nI (cM K)) hK.2.2.1 flX11_181 rfl rfl rfl (by decide) dX11_atSea_6 rfl ?_
      refine V_icmp_ge 41 12 rfl dX11_atSea_9 rfl (fun c9 => absurd c9 (nI_ge hi (by omega))) (fun c9 => ?_)
      refine V_iload_n 13 1 rfl rfl dX11_atSea_12 rfl ?_
      refine V_aload_n 14 2 rfl _ rfl rfl dX11_atSea_13 rfl ?_
      refine V_getR 17 69 11 41 89 (hRM 41) flX11_74 rfl rfl rfl (by decide) dX11_atSea_14 rfl ?_
      refine V_bipush 19 (6) rfl dX11_atSea_17 rfl ?_
      refine V_iload_n 20 0 rfl rfl dX11_atSea_19 rfl ?_
      refine V_iadd 21 dX11_atSea_20 rfl ?_
      refine V_rw (nI_add 6 i) ?_
      refine V_ialdN 22 89 51 (6 + i) (D ((6 + i))) (hM ((6 + i)) (by omega)) (by omega) (by decide) rfl (by decide) dX11_atSea_21 rfl ?_
      refine V_iconst 23 (-1) rfl dX11_atSea_22 rfl ?_
      refine V_icmp_ne 30 26 rfl dX11_atSea_23 rfl (fun c23 => ?_) (fun c23 => ?_)
      · refine V_iconst 31 (1) rfl dX11_atSea_30 rfl ?_
        refine V_iload_n 32 0 rfl rfl dX11_atSea_31 rfl ?_
        refine V_ishl 33 dX11_atSea_32 rfl ?_
        refine V_ior 34 dX11_atSea_33 rfl ?_
        refine V_rw (show _ = seaF D (i + 1) from by rw [seaF]; first | rw [if_pos c23] | rw [if_neg c23]) ?_
        refine V_istore_n 35 [(1, .int (seaF D (i + 1))), (2, .int (nI i)), (0, rf G 69)] (by decide) rfl rfl dX11_atSea_34 rfl ?_
        refine V_iinc 38 1 rfl (nI (i + 1)) [(2, .int (nI (i + 1))), (1, .int (seaF D (i + 1))), (0, rf G 69)] (nI_1 _) (by decide) rfl dX11_atSea_35 rfl ?_
        refine V_goto 4 rfl dX11_atSea_38 ?_
        exact V_lv [0, 1, 2] rfl ih
      · refine V_iconst 27 (0) rfl dX11_atSea_26 rfl ?_
        refine V_goto 33 rfl dX11_atSea_27 ?_
        refine V_ior 34 dX11_atSea_33 rfl ?_
        refine V_rw (show _ = seaF D (i + 1) from by rw [seaF]; first | rw [if_pos c23] | rw [if_neg c23]) ?_
        refine V_istore_n 35 [(1, .int (seaF D (i + 1))), (2, .int (nI i)), (0, rf G 69)] (by decide) rfl rfl dX11_atSea_34 rfl ?_
        refine V_iinc 38 1 rfl (nI (i + 1)) [(2, .int (nI (i + 1))), (1, .int (seaF D (i + 1))), (0, rf G 69)] (nI_1 _) (by decide) rfl dX11_atSea_35 rfl ?_
        refine V_goto 4 rfl dX11_atSea_38 ?_
        exact V_lv [0, 1, 2] rfl ih
  show V _ _ _ _ _ _ _ _ [(0, rf G 69)] [] _ _ _ _ _
  refine V_iconst 1 (0) rfl dX11_atSea_0 rfl ?_
  refine V_istore_n 2 [(1, .int 0), (0, rf G 69)] (by decide) rfl rfl dX11_atSea_1 rfl ?_
  refine V_iconst 3 (0) rfl dX11_atSea_2 rfl ?_
  refine V_istore_n 4 [(2, .int 0), (1, .int 0), (0, rf G 69)] (by decide) rfl rfl dX11_atSea_3 rfl ?_
  exact V_lv [0, 1, 2] rfl (L 0 (Nat.zero_le _))
set_option maxHeartbeats 4000000 in
theorem c_X11_sumOf {G : Gx} {d : Nat} {I : FI} {R : FR} {J : FJ} {Q : Po} (hRM : ∀ k, R 69 k = refM k) {D : DV} {b z : Nat} (hb : b + z ≤ 51) (hM : DayM I D) (hq : Q (.inl (some (.int (sumF D b z)))) 103 I R J) : Cc G mX11_sumOf d 0 0 [rf G 69, .int (nI b), .int (nI z)] 103 I R J Q := by
  have L : ∀ i, i ≤ z → V G mX11_sumOf d 0 0 0 0 5 [(4, .int (nI i)), (3, .int (sumF D b i)), (0, rf G 69), (1, .int (nI b)), (2, .int (nI z))] [] 103 I R J Q := by
    refine loopd z ?_ (fun i hi ih => ?_)
    · refine V_iload 7 0 rfl dX11_sumOf_5 rfl ?_
      refine V_iload_n 8 4 rfl rfl dX11_sumOf_7 rfl ?_
      refine V_icmp_ge 29 11 rfl dX11_sumOf_8 rfl (fun c8 => ?_) (fun c8 => absurd (Int32.le_refl _) c8)
      refine V_iload_n 30 1 rfl rfl dX11_sumOf_29 rfl ?_
      refine V_ret_i rfl rfl (Nat.le_refl _) (fun h => absurd h (by decide)) (Nat.le_refl _) (hq) dX11_sumOf_30
    · refine V_iload 7 0 rfl dX11_sumOf_5 rfl ?_
      refine V_iload_n 8 4 rfl rfl dX11_sumOf_7 rfl ?_
      refine V_icmp_ge 29 11 rfl dX11_sumOf_8 rfl (fun c8 => absurd c8 (nI_ge hi (by omega))) (fun c8 => ?_)
      refine V_iload_n 12 1 rfl rfl dX11_sumOf_11 rfl ?_
      refine V_aload_n 13 2 rfl _ rfl rfl dX11_sumOf_12 rfl ?_
      refine V_getR 16 69 11 41 89 (hRM 41) flX11_74 rfl rfl rfl (by decide) dX11_sumOf_13 rfl ?_
      refine V_iload_n 17 3 rfl rfl dX11_sumOf_16 rfl ?_
      refine V_iload 19 0 rfl dX11_sumOf_17 rfl ?_
      refine V_iadd 20 dX11_sumOf_19 rfl ?_
      refine V_rw (nI_add b i) ?_
      refine V_ialdN 21 89 51 (b + i) (D ((b + i))) (hM ((b + i)) (by omega)) (by omega) (by decide) rfl (by decide) dX11_sumOf_20 rfl ?_
      refine V_iadd 22 dX11_sumOf_21 rfl ?_
      refine V_rw (rfl) ?_
      refine V_istore_n 23 [(3, .int (sumF D b (i + 1))), (4, .int (nI i)), (0, rf G 69), (1, .int (nI b)), (2, .int (nI z))] (by decide) rfl rfl dX11_sumOf_22 rfl ?_
      refine V_iinc 26 1 rfl (nI (i + 1)) [(4, .int (nI (i + 1))), (3, .int (sumF D b (i + 1))), (0, rf G 69), (1, .int (nI b)), (2, .int (nI z))] (nI_1 _) (by decide) rfl dX11_sumOf_23 rfl ?_
      refine V_goto 5 rfl dX11_sumOf_26 ?_
      exact V_lv [0, 1, 2, 3, 4] rfl ih
  show V _ _ _ _ _ _ _ _ [(0, rf G 69), (1, .int (nI b)), (2, .int (nI z))] [] _ _ _ _ _
  refine V_iconst 1 (0) rfl dX11_sumOf_0 rfl ?_
  refine V_istore_n 2 [(3, .int 0), (0, rf G 69), (1, .int (nI b)), (2, .int (nI z))] (by decide) rfl rfl dX11_sumOf_1 rfl ?_
  refine V_iconst 3 (0) rfl dX11_sumOf_2 rfl ?_
  refine V_istore 5 [(4, .int 0), (3, .int 0), (0, rf G 69), (1, .int (nI b)), (2, .int (nI z))] (by decide) rfl dX11_sumOf_3 rfl ?_
  exact V_lv [0, 1, 2, 3, 4] rfl (L 0 (Nat.zero_le _))
set_option maxHeartbeats 4000000 in
theorem c_X11_wearerOf {G : Gx} {d : Nat} {I : FI} {R : FR} {J : FJ} {Q : Po} (hRM : ∀ k, R 69 k = refM k) {K : CO} {D : DV} {h : Int32} (hK : CoastM I K) (h6 : cM K ≤ 6) (hM : DayM I D) (hq : Q (.inl (some (.int (wearF D h (cM K) 0)))) 103 I R J) : Cc G mX11_wearerOf d 0 0 [rf G 69, .int h] 103 I R J Q := by
  have L : ∀ i, i ≤ cM K → Q (.inl (some (.int (wearF D h (cM K - i) i)))) 103 I R J → V G mX11_wearerOf d 0 0 0 0 2 [(2, .int (nI i)), (0, rf G 69), (1, .int h)] [] 103 I R J Q := by
    refine loopd (cM K) (fun hq => ?_) (fun i hi ih hq => ?_)
    · rw [Nat.sub_self] at hq
      refine V_iload_n 3 0 rfl rfl dX11_wearerOf_2 rfl ?_
      refine V_aload_n 4 1 rfl _ rfl rfl dX11_wearerOf_3 rfl ?_
      refine V_getI 7 69 11 23 (nI (cM K)) hK.2.2.1 flX11_181 rfl rfl rfl (by decide) dX11_wearerOf_4 rfl ?_
      refine V_icmp_ge 30 10 rfl dX11_wearerOf_7 rfl (fun c7 => ?_) (fun c7 => absurd (Int32.le_refl _) c7)
      refine V_iconst 31 (-1) rfl dX11_wearerOf_30 rfl ?_
      refine V_ret_i rfl rfl (Nat.le_refl _) (fun h => absurd h (by decide)) (Nat.le_refl _) (hq) dX11_wearerOf_31
    · rw [show cM K - i = (cM K - (i + 1)) + 1 by omega] at hq
      refine V_iload_n 3 0 rfl rfl dX11_wearerOf_2 rfl ?_
      refine V_aload_n 4 1 rfl _ rfl rfl dX11_wearerOf_3 rfl ?_
      refine V_getI 7 69 11 23 (nI (cM K)) hK.2.2.1 flX11_181 rfl rfl rfl (by decide) dX11_wearerOf_4 rfl ?_
      refine V_icmp_ge 30 10 rfl dX11_wearerOf_7 rfl (fun c7 => absurd c7 (nI_ge hi (by omega))) (fun c7 => ?_)
      refine V_aload_n 11 1 rfl _ rfl rfl dX11_wearerOf_10 rfl ?_
      refine V_getR 14 69 11 41 89 (hRM 41) flX11_74 rfl rfl rfl (by decide) dX11_wearerOf_11 rfl ?_
      refine V_iconst 15 (0) rfl dX11_wearerOf_14 rfl ?_
      refine V_iload_n 16 0 rfl rfl dX11_wearerOf_15 rfl ?_
      refine V_iadd 17 dX11_wearerOf_16 rfl ?_
      refine V_rw (nI_z _) ?_
      refine V_ialdN 18 89 51 i (D i) (hM (i) (by omega)) (by omega) (by decide) rfl (by decide) dX11_wearerOf_17 rfl ?_
      refine V_iload_n 19 2 rfl rfl dX11_wearerOf_18 rfl ?_
      refine V_icmp_ne 24 22 rfl dX11_wearerOf_19 rfl (fun c19 => ?_) (fun c19 => ?_)
      · refine V_iinc 27 0 rfl (nI (i + 1)) [(2, .int (nI (i + 1))), (0, rf G 69), (1, .int h)] (nI_1 _) (by decide) rfl dX11_wearerOf_24 rfl ?_
        refine V_goto 2 rfl dX11_wearerOf_27 ?_
        exact V_lv [0, 1, 2] rfl (ih (by simpa only [wearF, if_neg c19] using hq))
      · refine V_iload_n 23 0 rfl rfl dX11_wearerOf_22 rfl ?_
        refine V_ret_i rfl rfl (Nat.le_refl _) (fun h => absurd h (by decide)) (Nat.le_refl _) (by simpa only [wearF, if_pos c19] using hq) dX11_wearerOf_23
  show V _ _ _ _ _ _ _ _ [(0, rf G 69), (1, .int h)] [] _ _ _ _ _
  refine V_iconst 1 (0) rfl dX11_wearerOf_0 rfl ?_
  refine V_istore_n 2 [(2, .int 0), (0, rf G 69), (1, .int h)] (by decide) rfl rfl dX11_wearerOf_1 rfl ?_
  exact V_lv [0, 1, 2] rfl (L 0 (Nat.zero_le _) (by rw [Nat.sub_zero]; exact hq))
set_option maxHeartbeats 4000000 in
theorem c_X11_forceOf {G : Gx} {d : Nat} {I : FI} {R : FR} {J : FJ} {Q : Po} (hRM : ∀ k, R 69 k = refM k) {K : CO} {D : DV} {h : Nat} (hK : CoastM I K) (hW : WK K) (hM : DayM I D) (hh : h < cH K) (hq : Q (.inl (some (.int (cHat K (2 * h) + D (36 + h))))) 103 I R J) : Cc G mX11_forceOf d 0 0 [rf G 69, .int (nI h)] 103 I R J Q := by
  have h8 := hW.1
  show V _ _ _ _ _ _ _ _ [(0, rf G 69), (1, .int (nI h))] [] _ _ _ _ _
  refine V_aload_n 1 0 rfl _ rfl rfl dX11_forceOf_0 rfl ?_
  refine V_getR 4 69 11 14 76 (hRM 14) flX11_35 rfl rfl rfl (by decide) dX11_forceOf_1 rfl ?_
  refine V_iconst 5 (2) rfl dX11_forceOf_4 rfl ?_
  refine V_iload_n 6 1 rfl rfl dX11_forceOf_5 rfl ?_
  refine V_imul 7 dX11_forceOf_6 rfl ?_
  refine V_rw (pk_mul 2 h) ?_
  refine V_ialdN 8 76 16 (2 * h) (cHat K (2 * h)) (hK.2.2.2.1 h hh).1 (by omega) (by decide) rfl (by decide) dX11_forceOf_7 rfl ?_
  refine V_aload_n 9 0 rfl _ rfl rfl dX11_forceOf_8 rfl ?_
  refine V_getR 12 69 11 41 89 (hRM 41) flX11_74 rfl rfl rfl (by decide) dX11_forceOf_9 rfl ?_
  refine V_bipush 14 (36) rfl dX11_forceOf_12 rfl ?_
  refine V_iload_n 15 1 rfl rfl dX11_forceOf_14 rfl ?_
  refine V_iadd 16 dX11_forceOf_15 rfl ?_
  refine V_rw (nI_add 36 h) ?_
  refine V_ialdN 17 89 51 (36 + h) (D ((36 + h))) (hM ((36 + h)) (by omega)) (by omega) (by decide) rfl (by decide) dX11_forceOf_16 rfl ?_
  refine V_iadd 18 dX11_forceOf_17 rfl ?_
  refine V_ret_i rfl rfl (Nat.le_refl _) (fun h => absurd h (by decide)) (Nat.le_refl _) (hq) dX11_forceOf_18
theorem angF_eq (x y : Int32) : angF x y = (let a := if 0 ≤ x - y then x - y else 0 - (x - y); if 8 - a < a then 8 - a else a) := rfl
set_option maxHeartbeats 4000000 in
theorem c_X11_angleOf {G : Gx} {d : Nat} {I : FI} {R : FR} {J : FJ} {Q : Po} (hRM : ∀ k, R 69 k = refM k) {K : CO} {h g : Nat} (hK : CoastM I K) (hW : WK K) (hh : h < cH K) (hg : g < cG K) (hq : Q (.inl (some (.int (angF (cHat K (2 * h + 1)) (cGr K (2 * g + 1)))))) 103 I R J) : Cc G mX11_angleOf d 0 0 [rf G 69, .int (nI h), .int (nI g)] 103 I R J Q := by
  have h8 := hW.1
  have h66 := hW.2.1
  show V _ _ _ _ _ _ _ _ [(0, rf G 69), (1, .int (nI h)), (2, .int (nI g))] [] _ _ _ _ _
  refine V_aload_n 1 0 rfl _ rfl rfl dX11_angleOf_0 rfl ?_
  refine V_getR 4 69 11 14 76 (hRM 14) flX11_35 rfl rfl rfl (by decide) dX11_angleOf_1 rfl ?_
  refine V_iconst 5 (2) rfl dX11_angleOf_4 rfl ?_
  refine V_iload_n 6 1 rfl rfl dX11_angleOf_5 rfl ?_
  refine V_imul 7 dX11_angleOf_6 rfl ?_
  refine V_rw (pk_mul 2 h) ?_
  refine V_iconst 8 (1) rfl dX11_angleOf_7 rfl ?_
  refine V_iadd 9 dX11_angleOf_8 rfl ?_
  refine V_rw (nI_add (2 * h) 1) ?_
  refine V_ialdN 10 76 16 ((2 * h) + 1) (cHat K (2 * h + 1)) (hK.2.2.2.1 h hh).2 (by omega) (by decide) rfl (by decide) dX11_angleOf_9 rfl ?_
  refine V_aload_n 11 0 rfl _ rfl rfl dX11_angleOf_10 rfl ?_
  refine V_getR 14 69 11 15 77 (hRM 15) flX11_38 rfl rfl rfl (by decide) dX11_angleOf_11 rfl ?_
  refine V_iconst 15 (2) rfl dX11_angleOf_14 rfl ?_
  refine V_iload_n 16 2 rfl rfl dX11_angleOf_15 rfl ?_
  refine V_imul 17 dX11_angleOf_16 rfl ?_
  refine V_rw (pk_mul 2 g) ?_
  refine V_iconst 18 (1) rfl dX11_angleOf_17 rfl ?_
  refine V_iadd 19 dX11_angleOf_18 rfl ?_
  refine V_rw (nI_add (2 * g) 1) ?_
  refine V_ialdN 20 77 12 ((2 * g) + 1) (cGr K (2 * g + 1)) (hK.2.2.2.2.1 g hg).2 (by omega) (by decide) rfl (by decide) dX11_angleOf_19 rfl ?_
  refine V_isub 21 dX11_angleOf_20 rfl ?_
  refine V_topi (fun y ey => ?_)
  refine V_istore_n 22 [(3, .int y), (0, rf G 69), (1, .int (nI h)), (2, .int (nI g))] (by decide) rfl rfl dX11_angleOf_21 rfl ?_
  refine V_iload_n 23 0 rfl rfl dX11_angleOf_22 rfl ?_
  refine V_if_ge 31 26 rfl dX11_angleOf_23 rfl (fun c23 => ?_) (fun c23 => ?_)
  · refine V_iload_n 32 0 rfl rfl dX11_angleOf_31 rfl ?_
    refine V_rw (show y = absF y from by unfold absF; rw [if_pos c23]) ?_
    refine V_istore_n 33 [(3, .int (absF y)), (0, rf G 69), (1, .int (nI h)), (2, .int (nI g))] (by decide) rfl rfl dX11_angleOf_32 rfl ?_
    refine V_iload_n 34 0 rfl rfl dX11_angleOf_33 rfl ?_
    refine V_bipush 36 (8) rfl dX11_angleOf_34 rfl ?_
    refine V_iload_n 37 0 rfl rfl dX11_angleOf_36 rfl ?_
    refine V_isub 38 dX11_angleOf_37 rfl ?_
    refine V_icmp_le 48 41 rfl dX11_angleOf_38 rfl (fun c38 => ?_) (fun c38 => ?_)
    · refine V_iload_n 49 0 rfl rfl dX11_angleOf_48 rfl ?_
      refine V_ret_i rfl rfl (Nat.le_refl _) (fun h => absurd h (by decide)) (Nat.le_refl _) (by rw [angF, ← ey] at hq; first | (rw [if_pos (Int32.not_le.mp c38)] at hq; exact hq) | (rw [if_neg (Int32.not_lt.mpr c38)] at hq; exact hq)) dX11_angleOf_49
    · refine V_bipush 43 (8) rfl dX11_angleOf_41 rfl ?_
      refine V_iload_n 44 0 rfl rfl dX11_angleOf_43 rfl ?_
      refine V_isub 45 dX11_angleOf_44 rfl ?_
      refine V_goto 49 rfl dX11_angleOf_45 ?_
      refine V_ret_i rfl rfl (Nat.le_refl _) (fun h => absurd h (by decide)) (Nat.le_refl _) (by rw [angF, ← ey] at hq; first | (rw [if_pos (Int32.not_le.mp c38)] at hq; exact hq) | (rw [if_neg (Int32.not_lt.mpr c38)] at hq; exact hq)) dX11_angleOf_49
  · refine V_iload_n 27 0 rfl rfl dX11_angleOf_26 rfl ?_
    refine V_ineg 28 dX11_angleOf_27 rfl ?_
    refine V_rw (show -y = absF y from by unfold absF; rw [if_neg c23, Int32.zero_sub]) ?_
    refine V_goto 32 rfl dX11_angleOf_28 ?_
    refine V_istore_n 33 [(3, .int (absF y)), (0, rf G 69), (1, .int (nI h)), (2, .int (nI g))] (by decide) rfl rfl dX11_angleOf_32 rfl ?_
    refine V_iload_n 34 0 rfl rfl dX11_angleOf_33 rfl ?_
    refine V_bipush 36 (8) rfl dX11_angleOf_34 rfl ?_
    refine V_iload_n 37 0 rfl rfl dX11_angleOf_36 rfl ?_
    refine V_isub 38 dX11_angleOf_37 rfl ?_
    refine V_icmp_le 48 41 rfl dX11_angleOf_38 rfl (fun c38 => ?_) (fun c38 => ?_)
    · refine V_iload_n 49 0 rfl rfl dX11_angleOf_48 rfl ?_
      refine V_ret_i rfl rfl (Nat.le_refl _) (fun h => absurd h (by decide)) (Nat.le_refl _) (by rw [angF, ← ey] at hq; first | (rw [if_pos (Int32.not_le.mp c38)] at hq; exact hq) | (rw [if_neg (Int32.not_lt.mpr c38)] at hq; exact hq)) dX11_angleOf_49
    · refine V_bipush 43 (8) rfl dX11_angleOf_41 rfl ?_
      refine V_iload_n 44 0 rfl rfl dX11_angleOf_43 rfl ?_
      refine V_isub 45 dX11_angleOf_44 rfl ?_
      refine V_goto 49 rfl dX11_angleOf_45 ?_
      refine V_ret_i rfl rfl (Nat.le_refl _) (fun h => absurd h (by decide)) (Nat.le_refl _) (by rw [angF, ← ey] at hq; first | (rw [if_pos (Int32.not_le.mp c38)] at hq; exact hq) | (rw [if_neg (Int32.not_lt.mpr c38)] at hq; exact hq)) dX11_angleOf_49
