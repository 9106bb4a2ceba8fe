/-! ===== the class's Days, over a vector of a day in the reference's order: ON 0.., AT 6.., STAYED 12.., HURT 18.., LANDED 24.., LIVES 30.., OILS 36.., FISH 44.., TODAY 50 ===== -/
abbrev DV : Type := Nat → Int32
/-- counted loops: from the exit backwards -/
theorem loopd {P : Nat → Prop} (N : Nat) (hN : P N) (hs : ∀ i, i < N → P (i + 1) → P i) : ∀ i, i ≤ N → P i := by
  intro i hi
  have key : ∀ k, k ≤ N → P (N - k) := by
    intro k
    induction k with
    | zero => intro _; exact hN
    | succ k ih =>
      intro h
      have h2 := ih (by omega)
      exact hs _ (by omega) (by rw [show N - (k + 1) + 1 = N - k by omega]; exact h2)
  have := key (N - i) (by omega)
  rwa [show N - (N - i) = i by omega] at this
def livB (D : DV) : Nat → Int32
  | 0 => 0
  | m + 1 => livB D m ||| (D (30 + m) <<< (nI m &&& 31))
def DayC (I : FI) (o : Nat) (D : DV) : Prop := (∀ m, m < 6 → I (o + 1) m = D (18 + m)) ∧ (∀ m, m < 6 → I (o + 2) m = D m) ∧ (∀ m, m < 6 → I (o + 3) m = D (6 + m)) ∧ (∀ m, m < 6 → I (o + 4) m = D (12 + m)) ∧ (∀ m, m < 6 → I (o + 5) m = D (24 + m)) ∧ (∀ h, h < 8 → I (o + 6) h = D (36 + h)) ∧ (∀ g, g < 6 → I (o + 7) g = D (44 + g)) ∧ I o 7 = D 50 ∧ I o 8 = livB D 6
/-- nothing but the cells o .. o + 7 differs -/
def FrC (I I' : FI) (o : Nat) : Prop := ∀ a, (a < o ∨ o + 7 < a) → I' a = I a
theorem FrC.rf {I : FI} {o : Nat} : FrC I I o := fun _ _ => rfl
theorem FrC.up {I I' : FI} {o a k : Nat} {v : Int32} (h : FrC I I' o) (h1 : o ≤ a) (h2 : a ≤ o + 7) : FrC I (up2 I' a k v) o := fun b hb => by
  rw [up2_n I' k v (by omega)]; exact h b hb
def Flg (D : DV) : Prop := ∀ m, m < 6 → D (30 + m) = 0 ∨ D (30 + m) = 1
def fl6 (b0 b1 b2 b3 b4 b5 : Bool) (m : Nat) : Int32 := if ([b0, b1, b2, b3, b4, b5].getD m false) = true then 1 else 0
theorem fl6_bit : ∀ b0 b1 b2 b3 b4 b5 : Bool, ∀ m, m < 6 → (((((((((0 : Int32) ||| (fl6 b0 b1 b2 b3 b4 b5 0 <<< (nI 0 &&& 31))) ||| (fl6 b0 b1 b2 b3 b4 b5 1 <<< (nI 1 &&& 31))) ||| (fl6 b0 b1 b2 b3 b4 b5 2 <<< (nI 2 &&& 31))) ||| (fl6 b0 b1 b2 b3 b4 b5 3 <<< (nI 3 &&& 31))) ||| (fl6 b0 b1 b2 b3 b4 b5 4 <<< (nI 4 &&& 31))) ||| (fl6 b0 b1 b2 b3 b4 b5 5 <<< (nI 5 &&& 31))) >>> (nI m &&& 31)) &&& 1) = fl6 b0 b1 b2 b3 b4 b5 m := by decide +kernel
theorem Flg.six {D : DV} (h : Flg D) : ∃ b0 b1 b2 b3 b4 b5 : Bool, ∀ m, m < 6 → D (30 + m) = fl6 b0 b1 b2 b3 b4 b5 m := by
  have key : ∀ m, ∃ b : Bool, m < 6 → D (30 + m) = if b = true then 1 else 0 := by
    intro m
    by_cases hm : m < 6
    · rcases h m hm with e | e
      · exact ⟨false, fun _ => by rw [e]; rfl⟩
      · exact ⟨true, fun _ => by rw [e]; rfl⟩
    · exact ⟨false, fun q => absurd q hm⟩
  obtain ⟨b0, h0⟩ := key 0
  obtain ⟨b1, h1⟩ := key 1
  obtain ⟨b2, h2⟩ := key 2
  obtain ⟨b3, h3⟩ := key 3
  obtain ⟨b4, h4⟩ := key 4
  obtain ⟨b5, h5⟩ := key 5
  refine ⟨b0, b1, b2, b3, b4, b5, fun m hm => ?_⟩
  match m, hm with
  | 0, _ => exact h0 (by decide)
  | 1, _ => exact h1 (by decide)
  | 2, _ => exact h2 (by decide)
  | 3, _ => exact h3 (by decide)
  | 4, _ => exact h4 (by decide)
  | 5, _ => exact h5 (by decide)
theorem livB_bit {D : DV} (h : Flg D) {m : Nat} (hm : m < 6) : (livB D 6 >>> (nI m &&& 31)) &&& 1 = D (30 + m) := by
  obtain ⟨b0, b1, b2, b3, b4, b5, e⟩ := h.six
  have := fl6_bit b0 b1 b2 b3 b4 b5 m hm
  rw [e m hm, ← this]
  simp only [livB]
  rw [show D 30 = _ from e 0 (by decide), show D (30 + 1) = _ from e 1 (by decide), show D (30 + 2) = _ from e 2 (by decide), show D (30 + 3) = _ from e 3 (by decide), show D (30 + 4) = _ from e 4 (by decide), show D (30 + 5) = _ from e 5 (by decide)]
def wearF (D : DV) (h : Int32) : Nat → Nat → Int32
  | 0, _ => -1
  | k + 1, m => if D m = h then nI m else wearF D h k (m + 1)
def mAtF (D : DV) (g : Int32) : Nat → Int32
  | 0 => 0
  | m + 1 => mAtF D g m ||| (if D (6 + m) = g then (1 : Int32) <<< (nI m &&& 31) else (0 : Int32))
def seaF (D : DV) : Nat → Int32
  | 0 => 0
  | m + 1 => seaF D m ||| (if D (6 + m) = -1 then (0 : Int32) else (1 : Int32) <<< (nI m &&& 31))
def wornF (D : DV) : Nat → Int32
  | 0 => 0
  | m + 1 => wornF D m ||| (if D m = -1 then (0 : Int32) else (1 : Int32) <<< (D m &&& 31))
def sumF (D : DV) (b : Nat) : Nat → Int32
  | 0 => 0
  | m + 1 => sumF D b m + D (b + m)
set_option maxHeartbeats 4000000 in
theorem c_X3_lives_18 {G : Gx} {d : Nat} {I : FI} {R : FR} {J : FJ} {Q : Po} (hRK : RK R) {D : DV} {m : Nat} (hD : DayC I 18 D) (hF : Flg D) (hm : m < 6) (h1 : D (30 + m) = 1 → Q (.inl (some (.int 1))) 103 I R J) (h0 : D (30 + m) = 0 → Q (.inl (some (.int 0))) 103 I R J) : Cc G mX3_lives d 0 0 [rf G 18, .int (nI m)] 103 I R J Q := by
  show V _ _ _ _ _ _ _ _ [(0, rf G 18), (1, .int (nI m))] [] _ _ _ _ _
  refine V_aload_n 1 0 rfl _ rfl rfl dX3_lives_0 rfl ?_
  refine V_getI 4 18 3 8 (livB D 6) hD.2.2.2.2.2.2.2.2 flX3_60 rfl rfl rfl (by decide) dX3_lives_1 rfl ?_
  refine V_iload_n 5 1 rfl rfl dX3_lives_4 rfl ?_
  refine V_ishr 6 dX3_lives_5 rfl ?_
  refine V_iconst 7 (1) rfl dX3_lives_6 rfl ?_
  refine V_iand 8 dX3_lives_7 rfl ?_
  refine V_rw (livB_bit hF hm) ?_
  refine V_iconst 9 (1) rfl dX3_lives_8 rfl ?_
  refine V_icmp_ne 16 12 rfl dX3_lives_9 rfl (fun c9 => ?_) (fun c9 => ?_)
  · refine V_iconst 17 (0) rfl dX3_lives_16 rfl ?_
    refine V_ret_i rfl (by first | rfl | decide) (Nat.le_refl _) (fun h => absurd h (by decide)) (Nat.le_refl _) (h0 ((hF m hm).resolve_right c9)) dX3_lives_17
  · refine V_iconst 13 (1) rfl dX3_lives_12 rfl ?_
    refine V_goto 17 rfl dX3_lives_13 ?_
    refine V_ret_i rfl (by first | rfl | decide) (Nat.le_refl _) (fun h => absurd h (by decide)) (Nat.le_refl _) (h1 c9) dX3_lives_17
set_option maxHeartbeats 4000000 in
theorem c_X3_wearerOf_18 {G : Gx} {d : Nat} {I : FI} {R : FR} {J : FJ} {Q : Po} (hRK : RK R) {D : DV} {h : Int32} (hD : DayC I 18 D) (hq : Q (.inl (some (.int (wearF D h 6 0)))) 103 I R J) : Cc G mX3_wearerOf d 0 0 [rf G 18, .int h] 103 I R J Q := by
  have L : ∀ i, i ≤ 6 → Q (.inl (some (.int (wearF D h (6 - i) i)))) 103 I R J → V G mX3_wearerOf d 0 0 0 0 2 [(2, .int (nI i)), (0, rf G 18), (1, .int h)] [] 103 I R J Q := by
    refine loopd 6 (fun hq => ?_) (fun i hi ih hq => ?_)
    · refine V_iload_n 3 0 rfl rfl dX3_wearerOf_2 rfl ?_
      refine V_bipush 5 (6) rfl dX3_wearerOf_3 rfl ?_
      refine V_icmp_ge 26 8 rfl dX3_wearerOf_5 rfl (fun c5 => ?_) (fun c5 => absurd (by decide) c5)
      refine V_iconst 27 (-1) rfl dX3_wearerOf_26 rfl ?_
      refine V_ret_i rfl rfl (Nat.le_refl _) (fun h => absurd h (by decide)) (Nat.le_refl _) (hq) dX3_wearerOf_27
    · rw [show 6 - i = (6 - (i + 1)) + 1 by omega] at hq
      refine V_iload_n 3 0 rfl rfl dX3_wearerOf_2 rfl ?_
      refine V_bipush 5 (6) rfl dX3_wearerOf_3 rfl ?_
      refine V_icmp_ge 26 8 rfl dX3_wearerOf_5 rfl (fun c5 => absurd c5 (nI_ge hi (by decide))) (fun c5 => ?_)
      refine V_aload_n 9 1 rfl _ rfl rfl dX3_wearerOf_8 rfl ?_
      refine V_getR 12 18 3 1 20 (hRK 18 1 (by decide) (by decide) (by decide)) flX3_15 rfl rfl rfl (by decide) dX3_wearerOf_9 rfl ?_
      refine V_iload_n 13 0 rfl rfl dX3_wearerOf_12 rfl ?_
      refine V_ialdN 14 20 6 i (D (i)) (hD.2.1 i hi) (by omega) (by decide) rfl (by decide) dX3_wearerOf_13 rfl ?_
      refine V_iload_n 15 2 rfl rfl dX3_wearerOf_14 rfl ?_
      refine V_icmp_ne 20 18 rfl dX3_wearerOf_15 rfl (fun c15 => ?_) (fun c15 => ?_)
      · refine V_iinc 23 0 rfl (nI (i + 1)) [(2, .int (nI (i + 1))), (0, rf G 18), (1, .int h)] (nI_1 _) (by decide) rfl dX3_wearerOf_20 rfl ?_
        refine V_goto 2 rfl dX3_wearerOf_23 ?_
        refine V_lv [0, 1, 2] rfl ?_
        exact ih (by simpa only [wearF, if_neg c15] using hq)
      · refine V_iload_n 19 0 rfl rfl dX3_wearerOf_18 rfl ?_
        refine V_ret_i rfl rfl (Nat.le_refl _) (fun h => absurd h (by decide)) (Nat.le_refl _) (by simpa only [wearF, if_pos c15] using hq) dX3_wearerOf_19
  show V _ _ _ _ _ _ _ _ [(0, rf G 18), (1, .int h)] [] _ _ _ _ _
  refine V_iconst 1 (0) rfl dX3_wearerOf_0 rfl ?_
  refine V_istore_n 2 [(2, .int 0), (0, rf G 18), (1, .int h)] (by decide) rfl rfl dX3_wearerOf_1 rfl ?_
  exact L 0 (by decide) hq
set_option maxHeartbeats 4000000 in
theorem c_X3_menAt_18 {G : Gx} {d : Nat} {I : FI} {R : FR} {J : FJ} {Q : Po} (hRK : RK R) {D : DV} {g : Int32} (hD : DayC I 18 D) (hq : Q (.inl (some (.int (mAtF D g 6)))) 103 I R J) : Cc G mX3_menAt d 0 0 [rf G 18, .int g] 103 I R J Q := by
  have L : ∀ i, i ≤ 6 → V G mX3_menAt d 0 0 0 0 4 [(3, .int (nI i)), (2, .int (mAtF D g i)), (0, rf G 18), (1, .int g)] [] 103 I R J Q := by
    refine loopd 6 ?_ (fun i hi ih => ?_)
    · refine V_iload_n 5 0 rfl rfl dX3_menAt_4 rfl ?_
      refine V_bipush 7 (6) rfl dX3_menAt_5 rfl ?_
      refine V_icmp_ge 36 10 rfl dX3_menAt_7 rfl (fun c7 => ?_) (fun c7 => absurd (by decide) c7)
      refine V_iload_n 37 1 rfl rfl dX3_menAt_36 rfl ?_
      refine V_ret_i rfl rfl (Nat.le_refl _) (fun h => absurd h (by decide)) (Nat.le_refl _) (hq) dX3_menAt_37
    · refine V_iload_n 5 0 rfl rfl dX3_menAt_4 rfl ?_
      refine V_bipush 7 (6) rfl dX3_menAt_5 rfl ?_
      refine V_icmp_ge 36 10 rfl dX3_menAt_7 rfl (fun c7 => absurd c7 (nI_ge hi (by decide))) (fun c7 => ?_)
      refine V_iload_n 11 1 rfl rfl dX3_menAt_10 rfl ?_
      refine V_aload_n 12 2 rfl _ rfl rfl dX3_menAt_11 rfl ?_
      refine V_getR 15 18 3 2 21 (hRK 18 2 (by decide) (by decide) (by decide)) flX3_18 rfl rfl rfl (by decide) dX3_menAt_12 rfl ?_
      refine V_iload_n 16 0 rfl rfl dX3_menAt_15 rfl ?_
      refine V_ialdN 17 21 6 i (D (6 + i)) (hD.2.2.1 i hi) (by omega) (by decide) rfl (by decide) dX3_menAt_16 rfl ?_
      refine V_iload_n 18 3 rfl rfl dX3_menAt_17 rfl ?_
      refine V_icmp_ne 27 21 rfl dX3_menAt_18 rfl (fun c18 => ?_) (fun c18 => ?_)
      · refine V_iconst 28 (0) rfl dX3_menAt_27 rfl ?_
        refine V_ior 29 dX3_menAt_28 rfl ?_
        refine V_rw (show (mAtF D g i) ||| 0 = mAtF D g (i + 1) from by rw [mAtF]; first | rw [if_pos c18] | rw [if_neg c18]) ?_
        refine V_istore_n 30 [(2, .int (mAtF D g (i + 1))), (3, .int (nI i)), (0, rf G 18), (1, .int g)] (by decide) rfl rfl dX3_menAt_29 rfl ?_
        refine V_iinc 33 1 rfl (nI (i + 1)) [(3, .int (nI (i + 1))), (2, .int (mAtF D g (i + 1))), (0, rf G 18), (1, .int g)] (nI_1 _) (by decide) rfl dX3_menAt_30 rfl ?_
        refine V_goto 4 rfl dX3_menAt_33 ?_
        exact V_lv [0, 1, 2, 3] rfl ih
      · refine V_iconst 22 (1) rfl dX3_menAt_21 rfl ?_
        refine V_iload_n 23 0 rfl rfl dX3_menAt_22 rfl ?_
        refine V_ishl 24 dX3_menAt_23 rfl ?_
        refine V_goto 28 rfl dX3_menAt_24 ?_
        refine V_ior 29 dX3_menAt_28 rfl ?_
        refine V_rw (show (mAtF D g i) ||| (1 <<< ((nI i) &&& 31)) = mAtF D g (i + 1) from by rw [mAtF]; first | rw [if_pos c18] | rw [if_neg c18]) ?_
        refine V_istore_n 30 [(2, .int (mAtF D g (i + 1))), (3, .int (nI i)), (0, rf G 18), (1, .int g)] (by decide) rfl rfl dX3_menAt_29 rfl ?_
        refine V_iinc 33 1 rfl (nI (i + 1)) [(3, .int (nI (i + 1))), (2, .int (mAtF D g (i + 1))), (0, rf G 18), (1, .int g)] (nI_1 _) (by decide) rfl dX3_menAt_30 rfl ?_
        refine V_goto 4 rfl dX3_menAt_33 ?_
        exact V_lv [0, 1, 2, 3] rfl ih
  show V _ _ _ _ _ _ _ _ [(0, rf G 18), (1, .int g)] [] _ _ _ _ _
  refine V_iconst 1 (0) rfl dX3_menAt_0 rfl ?_
  refine V_istore_n 2 [(2, .int 0), (0, rf G 18), (1, .int g)] (by decide) rfl rfl dX3_menAt_1 rfl ?_
  refine V_iconst 3 (0) rfl dX3_menAt_2 rfl ?_
  refine V_istore_n 4 [(3, .int 0), (2, .int 0), (0, rf G 18), (1, .int g)] (by decide) rfl rfl dX3_menAt_3 rfl ?_
  exact V_lv [0, 1, 2, 3] rfl (L 0 (by decide))
set_option maxHeartbeats 4000000 in
theorem c_X3_menAtSea_18 {G : Gx} {d : Nat} {I : FI} {R : FR} {J : FJ} {Q : Po} (hRK : RK R) {D : DV}  (hD : DayC I 18 D) (hq : Q (.inl (some (.int (seaF D 6)))) 103 I R J) : Cc G mX3_menAtSea d 0 0 [rf G 18] 103 I R J Q := by
  have L : ∀ i, i ≤ 6 → V G mX3_menAtSea d 0 0 0 0 4 [(2, .int (nI i)), (1, .int (seaF D i)), (0, rf G 18)] [] 103 I R J Q := by
    refine loopd 6 ?_ (fun i hi ih => ?_)
    · refine V_iload_n 5 0 rfl rfl dX3_menAtSea_4 rfl ?_
      refine V_bipush 7 (6) rfl dX3_menAtSea_5 rfl ?_
      refine V_icmp_ge 36 10 rfl dX3_menAtSea_7 rfl (fun c7 => ?_) (fun c7 => absurd (by decide) c7)
      refine V_iload_n 37 1 rfl rfl dX3_menAtSea_36 rfl ?_
      refine V_ret_i rfl rfl (Nat.le_refl _) (fun h => absurd h (by decide)) (Nat.le_refl _) (hq) dX3_menAtSea_37
    · refine V_iload_n 5 0 rfl rfl dX3_menAtSea_4 rfl ?_
      refine V_bipush 7 (6) rfl dX3_menAtSea_5 rfl ?_
      refine V_icmp_ge 36 10 rfl dX3_menAtSea_7 rfl (fun c7 => absurd c7 (nI_ge hi (by decide))) (fun c7 => ?_)
      refine V_iload_n 11 1 rfl rfl dX3_menAtSea_10 rfl ?_
      refine V_aload_n 12 2 rfl _ rfl rfl dX3_menAtSea_11 rfl ?_
      refine V_getR 15 18 3 2 21 (hRK 18 2 (by decide) (by decide) (by decide)) flX3_18 rfl rfl rfl (by decide) dX3_menAtSea_12 rfl ?_
      refine V_iload_n 16 0 rfl rfl dX3_menAtSea_15 rfl ?_
      refine V_ialdN 17 21 6 i (D (6 + i)) (hD.2.2.1 i hi) (by omega) (by decide) rfl (by decide) dX3_menAtSea_16 rfl ?_
      refine V_iconst 18 (-1) rfl dX3_menAtSea_17 rfl ?_
      refine V_icmp_eq 27 21 rfl dX3_menAtSea_18 rfl (fun c18 => ?_) (fun c18 => ?_)
      · refine V_iconst 28 (0) rfl dX3_menAtSea_27 rfl ?_
        refine V_ior 29 dX3_menAtSea_28 rfl ?_
        refine V_rw (show (seaF D i) ||| 0 = seaF D (i + 1) from by rw [seaF]; first | rw [if_pos c18] | rw [if_neg c18]) ?_
        refine V_istore_n 30 [(1, .int (seaF D (i + 1))), (2, .int (nI i)), (0, rf G 18)] (by decide) rfl rfl dX3_menAtSea_29 rfl ?_
        refine V_iinc 33 1 rfl (nI (i + 1)) [(2, .int (nI (i + 1))), (1, .int (seaF D (i + 1))), (0, rf G 18)] (nI_1 _) (by decide) rfl dX3_menAtSea_30 rfl ?_
        refine V_goto 4 rfl dX3_menAtSea_33 ?_
        exact V_lv [0, 1, 2] rfl ih
      · refine V_iconst 22 (1) rfl dX3_menAtSea_21 rfl ?_
        refine V_iload_n 23 0 rfl rfl dX3_menAtSea_22 rfl ?_
        refine V_ishl 24 dX3_menAtSea_23 rfl ?_
        refine V_goto 28 rfl dX3_menAtSea_24 ?_
        refine V_ior 29 dX3_menAtSea_28 rfl ?_
        refine V_rw (show (seaF D i) ||| (1 <<< ((nI i) &&& 31)) = seaF D (i + 1) from by rw [seaF]; first | rw [if_pos c18] | rw [if_neg c18]) ?_
        refine V_istore_n 30 [(1, .int (seaF D (i + 1))), (2, .int (nI i)), (0, rf G 18)] (by decide) rfl rfl dX3_menAtSea_29 rfl ?_
        refine V_iinc 33 1 rfl (nI (i + 1)) [(2, .int (nI (i + 1))), (1, .int (seaF D (i + 1))), (0, rf G 18)] (nI_1 _) (by decide) rfl dX3_menAtSea_30 rfl ?_
        refine V_goto 4 rfl dX3_menAtSea_33 ?_
        exact V_lv [0, 1, 2] rfl ih
  show V _ _ _ _ _ _ _ _ [(0, rf G 18)] [] _ _ _ _ _
  refine V_iconst 1 (0) rfl dX3_menAtSea_0 rfl ?_
  refine V_istore_n 2 [(1, .int 0), (0, rf G 18)] (by decide) rfl rfl dX3_menAtSea_1 rfl ?_
  refine V_iconst 3 (0) rfl dX3_menAtSea_2 rfl ?_
  refine V_istore_n 4 [(2, .int 0), (1, .int 0), (0, rf G 18)] (by decide) rfl rfl dX3_menAtSea_3 rfl ?_
  exact V_lv [0, 1, 2] rfl (L 0 (by decide))
set_option maxHeartbeats 4000000 in
theorem c_X3_hatsWorn_18 {G : Gx} {d : Nat} {I : FI} {R : FR} {J : FJ} {Q : Po} (hRK : RK R) {D : DV}  (hD : DayC I 18 D) (hq : Q (.inl (some (.int (wornF D 6)))) 103 I R J) : Cc G mX3_hatsWorn d 0 0 [rf G 18] 103 I R J Q := by
  have L : ∀ i, i ≤ 6 → V G mX3_hatsWorn d 0 0 0 0 4 [(2, .int (nI i)), (1, .int (wornF D i)), (0, rf G 18)] [] 103 I R J Q := by
    refine loopd 6 ?_ (fun i hi ih => ?_)
    · refine V_iload_n 5 0 rfl rfl dX3_hatsWorn_4 rfl ?_
      refine V_bipush 7 (6) rfl dX3_hatsWorn_5 rfl ?_
      refine V_icmp_ge 41 10 rfl dX3_hatsWorn_7 rfl (fun c7 => ?_) (fun c7 => absurd (by decide) c7)
      refine V_iload_n 42 1 rfl rfl dX3_hatsWorn_41 rfl ?_
      refine V_ret_i rfl rfl (Nat.le_refl _) (fun h => absurd h (by decide)) (Nat.le_refl _) (hq) dX3_hatsWorn_42
    · refine V_iload_n 5 0 rfl rfl dX3_hatsWorn_4 rfl ?_
      refine V_bipush 7 (6) rfl dX3_hatsWorn_5 rfl ?_
      refine V_icmp_ge 41 10 rfl dX3_hatsWorn_7 rfl (fun c7 => absurd c7 (nI_ge hi (by decide))) (fun c7 => ?_)
      refine V_iload_n 11 1 rfl rfl dX3_hatsWorn_10 rfl ?_
      refine V_aload_n 12 2 rfl _ rfl rfl dX3_hatsWorn_11 rfl ?_
      refine V_getR 15 18 3 1 20 (hRK 18 1 (by decide) (by decide) (by decide)) flX3_15 rfl rfl rfl (by decide) dX3_hatsWorn_12 rfl ?_
      refine V_iload_n 16 0 rfl rfl dX3_hatsWorn_15 rfl ?_
      refine V_ialdN 17 20 6 i (D (i)) (hD.2.1 i hi) (by omega) (by decide) rfl (by decide) dX3_hatsWorn_16 rfl ?_
      refine V_iconst 18 (-1) rfl dX3_hatsWorn_17 rfl ?_
      refine V_icmp_eq 32 21 rfl dX3_hatsWorn_18 rfl (fun c18 => ?_) (fun c18 => ?_)
      · refine V_iconst 33 (0) rfl dX3_hatsWorn_32 rfl ?_
        refine V_ior 34 dX3_hatsWorn_33 rfl ?_
        refine V_rw (show (wornF D i) ||| 0 = wornF D (i + 1) from by rw [wornF]; first | rw [if_pos c18] | rw [if_neg c18]) ?_
        refine V_istore_n 35 [(1, .int (wornF D (i + 1))), (2, .int (nI i)), (0, rf G 18)] (by decide) rfl rfl dX3_hatsWorn_34 rfl ?_
        refine V_iinc 38 1 rfl (nI (i + 1)) [(2, .int (nI (i + 1))), (1, .int (wornF D (i + 1))), (0, rf G 18)] (nI_1 _) (by decide) rfl dX3_hatsWorn_35 rfl ?_
        refine V_goto 4 rfl dX3_hatsWorn_38 ?_
        exact V_lv [0, 1, 2] rfl ih
      · refine V_iconst 22 (1) rfl dX3_hatsWorn_21 rfl ?_
        refine V_aload_n 23 2 rfl _ rfl rfl dX3_hatsWorn_22 rfl ?_
        refine V_getR 26 18 3 1 20 (hRK 18 1 (by decide) (by decide) (by decide)) flX3_15 rfl rfl rfl (by decide) dX3_hatsWorn_23 rfl ?_
        refine V_iload_n 27 0 rfl rfl dX3_hatsWorn_26 rfl ?_
        refine V_ialdN 28 20 6 i (D (i)) (hD.2.1 i hi) (by omega) (by decide) rfl (by decide) dX3_hatsWorn_27 rfl ?_
        refine V_ishl 29 dX3_hatsWorn_28 rfl ?_
        refine V_goto 33 rfl dX3_hatsWorn_29 ?_
        refine V_ior 34 dX3_hatsWorn_33 rfl ?_
        refine V_rw (show (wornF D i) ||| (1 <<< ((D (i)) &&& 31)) = wornF D (i + 1) from by rw [wornF]; first | rw [if_pos c18] | rw [if_neg c18]) ?_
        refine V_istore_n 35 [(1, .int (wornF D (i + 1))), (2, .int (nI i)), (0, rf G 18)] (by decide) rfl rfl dX3_hatsWorn_34 rfl ?_
        refine V_iinc 38 1 rfl (nI (i + 1)) [(2, .int (nI (i + 1))), (1, .int (wornF D (i + 1))), (0, rf G 18)] (nI_1 _) (by decide) rfl dX3_hatsWorn_35 rfl ?_
        refine V_goto 4 rfl dX3_hatsWorn_38 ?_
        exact V_lv [0, 1, 2] rfl ih
  show V _ _ _ _ _ _ _ _ [(0, rf G 18)] [] _ _ _ _ _
  refine V_iconst 1 (0) rfl dX3_hatsWorn_0 rfl ?_
  refine V_istore_n 2 [(1, .int 0), (0, rf G 18)] (by decide) rfl rfl dX3_hatsWorn_1 rfl ?_
  refine V_iconst 3 (0) rfl dX3_hatsWorn_2 rfl ?_
  refine V_istore_n 4 [(2, .int 0), (1, .int 0), (0, rf G 18)] (by decide) rfl rfl dX3_hatsWorn_3 rfl ?_
  exact V_lv [0, 1, 2] rfl (L 0 (by decide))
set_option maxHeartbeats 4000000 in
theorem c_X3_fishLeft_18 {G : Gx} {d : Nat} {I : FI} {R : FR} {J : FJ} {Q : Po} (hRK : RK R) {D : DV}  (hD : DayC I 18 D) (hq : Q (.inl (some (.int (sumF D 44 6)))) 103 I R J) : Cc G mX3_fishLeft d 0 0 [rf G 18] 103 I R J Q := by
  have L : ∀ i, i ≤ 6 → V G mX3_fishLeft d 0 0 0 0 4 [(2, .int (nI i)), (1, .int (sumF D 44 i)), (0, rf G 18)] [] 103 I R J Q := by
    refine loopd 6 ?_ (fun i hi ih => ?_)
    · refine V_iload_n 5 0 rfl rfl dX3_fishLeft_4 rfl ?_
      refine V_bipush 7 (6) rfl dX3_fishLeft_5 rfl ?_
      refine V_icmp_ge 25 10 rfl dX3_fishLeft_7 rfl (fun c7 => ?_) (fun c7 => absurd (by decide) c7)
      refine V_iload_n 26 1 rfl rfl dX3_fishLeft_25 rfl ?_
      refine V_ret_i rfl rfl (Nat.le_refl _) (fun h => absurd h (by decide)) (Nat.le_refl _) (hq) dX3_fishLeft_26
    · refine V_iload_n 5 0 rfl rfl dX3_fishLeft_4 rfl ?_
      refine V_bipush 7 (6) rfl dX3_fishLeft_5 rfl ?_
      refine V_icmp_ge 25 10 rfl dX3_fishLeft_7 rfl (fun c7 => absurd c7 (nI_ge hi (by decide))) (fun c7 => ?_)
      refine V_iload_n 11 1 rfl rfl dX3_fishLeft_10 rfl ?_
      refine V_aload_n 12 2 rfl _ rfl rfl dX3_fishLeft_11 rfl ?_
      refine V_getR 15 18 3 6 25 (hRK 18 6 (by decide) (by decide) (by decide)) flX3_30 rfl rfl rfl (by decide) dX3_fishLeft_12 rfl ?_
      refine V_iload_n 16 0 rfl rfl dX3_fishLeft_15 rfl ?_
      refine V_ialdN 17 25 6 i (D (44 + i)) (hD.2.2.2.2.2.2.1 i hi) (by omega) (by decide) rfl (by decide) dX3_fishLeft_16 rfl ?_
      refine V_iadd 18 dX3_fishLeft_17 rfl ?_
      refine V_rw (show (sumF D 44 i) + (D (44 + i)) = sumF D 44 (i + 1) from by rfl) ?_
      refine V_istore_n 19 [(1, .int (sumF D 44 (i + 1))), (2, .int (nI i)), (0, rf G 18)] (by decide) rfl rfl dX3_fishLeft_18 rfl ?_
      refine V_iinc 22 1 rfl (nI (i + 1)) [(2, .int (nI (i + 1))), (1, .int (sumF D 44 (i + 1))), (0, rf G 18)] (nI_1 _) (by decide) rfl dX3_fishLeft_19 rfl ?_
      refine V_goto 4 rfl dX3_fishLeft_22 ?_
      exact V_lv [0, 1, 2] rfl ih
  show V _ _ _ _ _ _ _ _ [(0, rf G 18)] [] _ _ _ _ _
  refine V_iconst 1 (0) rfl dX3_fishLeft_0 rfl ?_
  refine V_istore_n 2 [(1, .int 0), (0, rf G 18)] (by decide) rfl rfl dX3_fishLeft_1 rfl ?_
  refine V_iconst 3 (0) rfl dX3_fishLeft_2 rfl ?_
  refine V_istore_n 4 [(2, .int 0), (1, .int 0), (0, rf G 18)] (by decide) rfl rfl dX3_fishLeft_3 rfl ?_
  exact V_lv [0, 1, 2] rfl (L 0 (by decide))
set_option maxHeartbeats 4000000 in
theorem c_X3_fishLanded_18 {G : Gx} {d : Nat} {I : FI} {R : FR} {J : FJ} {Q : Po} (hRK : RK R) {D : DV}  (hD : DayC I 18 D) (hq : Q (.inl (some (.int (sumF D 24 6)))) 103 I R J) : Cc G mX3_fishLanded d 0 0 [rf G 18] 103 I R J Q := by
  have L : ∀ i, i ≤ 6 → V G mX3_fishLanded d 0 0 0 0 4 [(2, .int (nI i)), (1, .int (sumF D 24 i)), (0, rf G 18)] [] 103 I R J Q := by
    refine loopd 6 ?_ (fun i hi ih => ?_)
    · refine V_iload_n 5 0 rfl rfl dX3_fishLanded_4 rfl ?_
      refine V_bipush 7 (6) rfl dX3_fishLanded_5 rfl ?_
      refine V_icmp_ge 25 10 rfl dX3_fishLanded_7 rfl (fun c7 => ?_) (fun c7 => absurd (by decide) c7)
      refine V_iload_n 26 1 rfl rfl dX3_fishLanded_25 rfl ?_
      refine V_ret_i rfl rfl (Nat.le_refl _) (fun h => absurd h (by decide)) (Nat.le_refl _) (hq) dX3_fishLanded_26
    · refine V_iload_n 5 0 rfl rfl dX3_fishLanded_4 rfl ?_
      refine V_bipush 7 (6) rfl dX3_fishLanded_5 rfl ?_
      refine V_icmp_ge 25 10 rfl dX3_fishLanded_7 rfl (fun c7 => absurd c7 (nI_ge hi (by decide))) (fun c7 => ?_)
      refine V_iload_n 11 1 rfl rfl dX3_fishLanded_10 rfl ?_
      refine V_aload_n 12 2 rfl _ rfl rfl dX3_fishLanded_11 rfl ?_
      refine V_getR 15 18 3 4 23 (hRK 18 4 (by decide) (by decide) (by decide)) flX3_24 rfl rfl rfl (by decide) dX3_fishLanded_12 rfl ?_
      refine V_iload_n 16 0 rfl rfl dX3_fishLanded_15 rfl ?_
      refine V_ialdN 17 23 6 i (D (24 + i)) (hD.2.2.2.2.1 i hi) (by omega) (by decide) rfl (by decide) dX3_fishLanded_16 rfl ?_
      refine V_iadd 18 dX3_fishLanded_17 rfl ?_
      refine V_rw (show (sumF D 24 i) + (D (24 + i)) = sumF D 24 (i + 1) from by rfl) ?_
      refine V_istore_n 19 [(1, .int (sumF D 24 (i + 1))), (2, .int (nI i)), (0, rf G 18)] (by decide) rfl rfl dX3_fishLanded_18 rfl ?_
      refine V_iinc 22 1 rfl (nI (i + 1)) [(2, .int (nI (i + 1))), (1, .int (sumF D 24 (i + 1))), (0, rf G 18)] (nI_1 _) (by decide) rfl dX3_fishLanded_19 rfl ?_
      refine V_goto 4 rfl dX3_fishLanded_22 ?_
      exact V_lv [0, 1, 2] rfl ih
  show V _ _ _ _ _ _ _ _ [(0, rf G 18)] [] _ _ _ _ _
  refine V_iconst 1 (0) rfl dX3_fishLanded_0 rfl ?_
  refine V_istore_n 2 [(1, .int 0), (0, rf G 18)] (by decide) rfl rfl dX3_fishLanded_1 rfl ?_
  refine V_iconst 3 (0) rfl dX3_fishLanded_2 rfl ?_
  refine V_istore_n 4 [(2, .int 0), (1, .int 0), (0, rf G 18)] (by decide) rfl rfl dX3_fishLanded_3 rfl ?_
  exact V_lv [0, 1, 2] rfl (L 0 (by decide))
set_option maxHeartbeats 4000000 in
theorem c_X3_lives_26 {G : Gx} {d : Nat} {I : FI} {R : FR} {J : FJ} {Q : Po} (hRK : RK R) {D : DV} {m : Nat} (hD : DayC I 26 D) (hF : Flg D) (hm : m < 6) (h1 : D (30 + m) = 1 → Q (.inl (some (.int 1))) 103 I R J) (h0 : D (30 + m) = 0 → Q (.inl (some (.int 0))) 103 I R J) : Cc G mX3_lives d 0 0 [rf G 26, .int (nI m)] 103 I R J Q := by
  show V _ _ _ _ _ _ _ _ [(0, rf G 26), (1, .int (nI m))] [] _ _ _ _ _
  refine V_aload_n 1 0 rfl _ rfl rfl dX3_lives_0 rfl ?_
  refine V_getI 4 26 3 8 (livB D 6) hD.2.2.2.2.2.2.2.2 flX3_60 rfl rfl rfl (by decide) dX3_lives_1 rfl ?_
  refine V_iload_n 5 1 rfl rfl dX3_lives_4 rfl ?_
  refine V_ishr 6 dX3_lives_5 rfl ?_
  refine V_iconst 7 (1) rfl dX3_lives_6 rfl ?_
  refine V_iand 8 dX3_lives_7 rfl ?_
  refine V_rw (livB_bit hF hm) ?_
  refine V_iconst 9 (1) rfl dX3_lives_8 rfl ?_
  refine V_icmp_ne 16 12 rfl dX3_lives_9 rfl (fun c9 => ?_) (fun c9 => ?_)
  · refine V_iconst 17 (0) rfl dX3_lives_16 rfl ?_
    refine V_ret_i rfl (by first | rfl | decide) (Nat.le_refl _) (fun h => absurd h (by decide)) (Nat.le_refl _) (h0 ((hF m hm).resolve_right c9)) dX3_lives_17
  · refine V_iconst 13 (1) rfl dX3_lives_12 rfl ?_
    refine V_goto 17 rfl dX3_lives_13 ?_
    refine V_ret_i rfl (by first | rfl | decide) (Nat.le_refl _) (fun h => absurd h (by decide)) (Nat.le_refl _) (h1 c9) dX3_lives_17
set_option maxHeartbeats 4000000 in
theorem c_X3_wearerOf_26 {G : Gx} {d : Nat} {I : FI} {R : FR} {J : FJ} {Q : Po} (hRK : RK R) {D : DV} {h : Int32} (hD : DayC I 26 D) (hq : Q (.inl (some (.int (wearF D h 6 0)))) 103 I R J) : Cc G mX3_wearerOf d 0 0 [rf G 26, .int h] 103 I R J Q := by
  have L : ∀ i, i ≤ 6 → Q (.inl (some (.int (wearF D h (6 - i) i)))) 103 I R J → V G mX3_wearerOf d 0 0 0 0 2 [(2, .int (nI i)), (0, rf G 26), (1, .int h)] [] 103 I R J Q := by
    refine loopd 6 (fun hq => ?_) (fun i hi ih hq => ?_)
    · refine V_iload_n 3 0 rfl rfl dX3_wearerOf_2 rfl ?_
      refine V_bipush 5 (6) rfl dX3_wearerOf_3 rfl ?_
      refine V_icmp_ge 26 8 rfl dX3_wearerOf_5 rfl (fun c5 => ?_) (fun c5 => absurd (by decide) c5)
      refine V_iconst 27 (-1) rfl dX3_wearerOf_26 rfl ?_
      refine V_ret_i rfl rfl (Nat.le_refl _) (fun h => absurd h (by decide)) (Nat.le_refl _) (hq) dX3_wearerOf_27
    · rw [show 6 - i = (6 - (i + 1)) + 1 by omega] at hq
      refine V_iload_n 3 0 rfl rfl dX3_wearerOf_2 rfl ?_
      refine V_bipush 5 (6) rfl dX3_wearerOf_3 rfl ?_
      refine V_icmp_ge 26 8 rfl dX3_wearerOf_5 rfl (fun c5 => absurd c5 (nI_ge hi (by decide))) (fun c5 => ?_)
      refine V_aload_n 9 1 rfl _ rfl rfl dX3_wearerOf_8 rfl ?_
      refine V_getR 12 26 3 1 28 (hRK 26 1 (by decide) (by decide) (by decide)) flX3_15 rfl rfl rfl (by decide) dX3_wearerOf_9 rfl ?_
      refine V_iload_n 13 0 rfl rfl dX3_wearerOf_12 rfl ?_
      refine V_ialdN 14 28 6 i (D (i)) (hD.2.1 i hi) (by omega) (by decide) rfl (by decide) dX3_wearerOf_13 rfl ?_
      refine V_iload_n 15 2 rfl rfl dX3_wearerOf_14 rfl ?_
      refine V_icmp_ne 20 18 rfl dX3_wearerOf_15 rfl (fun c15 => ?_) (fun c15 => ?_)
      · refine V_iinc 23 0 rfl (nI (i + 1)) [(2, .int (nI (i + 1))), (0, rf G 26), (1, .int h)] (nI_1 _) (by decide) rfl dX3_wearerOf_20 rfl ?_
        refine V_goto 2 rfl dX3_wearerOf_23 ?_
        refine V_lv [0, 1, 2] rfl ?_
        exact ih (by simpa only [wearF, if_neg c15] using hq)
      · refine V_iload_n 19 0 rfl rfl dX3_wearerOf_18 rfl ?_
        refine V_ret_i rfl rfl (Nat.le_refl _) (fun h => absurd h (by decide)) (Nat.le_refl _) (by simpa only [wearF, if_pos c15] using hq) dX3_wearerOf_19
  show V _ _ _ _ _ _ _ _ [(0, rf G 26), (1, .int h)] [] _ _ _ _ _
  refine V_iconst 1 (0) rfl dX3_wearerOf_0 rfl ?_
  refine V_istore_n 2 [(2, .int 0), (0, rf G 26), (1, .int h)] (by decide) rfl rfl dX3_wearerOf_1 rfl ?_
  exact L 0 (by decide) hq
set_option maxHeartbeats 4000000 in
theorem c_X3_menAt_26 {G : Gx} {d : Nat} {I : FI} {R : FR} {J : FJ} {Q : Po} (hRK : RK R) {D : DV} {g : Int32} (hD : DayC I 26 D) (hq : Q (.inl (some (.int (mAtF D g 6)))) 103 I R J) : Cc G mX3_menAt d 0 0 [rf G 26, .int g] 103 I R J Q := by
  have L : ∀ i, i ≤ 6 → V G mX3_menAt d 0 0 0 0 4 [(3, .int (nI i)), (2, .int (mAtF D g i)), (0, rf G 26), (1, .int g)] [] 103 I R J Q := by
    refine loopd 6 ?_ (fun i hi ih => ?_)
    · refine V_iload_n 5 0 rfl rfl dX3_menAt_4 rfl ?_
      refine V_bipush 7 (6) rfl dX3_menAt_5 rfl ?_
      refine V_icmp_ge 36 10 rfl dX3_menAt_7 rfl (fun c7 => ?_) (fun c7 => absurd (by decide) c7)
      refine V_iload_n 37 1 rfl rfl dX3_menAt_36 rfl ?_
      refine V_ret_i rfl rfl (Nat.le_refl _) (fun h => absurd h (by decide)) (Nat.le_refl _) (hq) dX3_menAt_37
    · refine V_iload_n 5 0 rfl rfl dX3_menAt_4 rfl ?_
      refine V_bipush 7 (6) rfl dX3_menAt_5 rfl ?_
      refine V_icmp_ge 36 10 rfl dX3_menAt_7 rfl (fun c7 => absurd c7 (nI_ge hi (by decide))) (fun c7 => ?_)
      refine V_iload_n 11 1 rfl rfl dX3_menAt_10 rfl ?_
      refine V_aload_n 12 2 rfl _ rfl rfl dX3_menAt_11 rfl ?_
      refine V_getR 15 26 3 2 29 (hRK 26 2 (by decide) (by decide) (by decide)) flX3_18 rfl rfl rfl (by decide) dX3_menAt_12 rfl ?_
      refine V_iload_n 16 0 rfl rfl dX3_menAt_15 rfl ?_
      refine V_ialdN 17 29 6 i (D (6 + i)) (hD.2.2.1 i hi) (by omega) (by decide) rfl (by decide) dX3_menAt_16 rfl ?_
      refine V_iload_n 18 3 rfl rfl dX3_menAt_17 rfl ?_
      refine V_icmp_ne 27 21 rfl dX3_menAt_18 rfl (fun c18 => ?_) (fun c18 => ?_)
      · refine V_iconst 28 (0) rfl dX3_menAt_27 rfl ?_
        refine V_ior 29 dX3_menAt_28 rfl ?_
        refine V_rw (show (mAtF D g i) ||| 0 = mAtF D g (i + 1) from by rw [mAtF]; first | rw [if_pos c18] | rw [if_neg c18]) ?_
        refine V_istore_n 30 [(2, .int (mAtF D g (i + 1))), (3, .int (nI i)), (0, rf G 26), (1, .int g)] (by decide) rfl rfl dX3_menAt_29 rfl ?_
        refine V_iinc 33 1 rfl (nI (i + 1)) [(3, .int (nI (i + 1))), (2, .int (mAtF D g (i + 1))), (0, rf G 26), (1, .int g)] (nI_1 _) (by decide) rfl dX3_menAt_30 rfl ?_
        refine V_goto 4 rfl dX3_menAt_33 ?_
        exact V_lv [0, 1, 2, 3] rfl ih
      · refine V_iconst 22 (1) rfl dX3_menAt_21 rfl ?_
        refine V_iload_n 23 0 rfl rfl dX3_menAt_22 rfl ?_
        refine V_ishl 24 dX3_menAt_23 rfl ?_
        refine V_goto 28 rfl dX3_menAt_24 ?_
        refine V_ior 29 dX3_menAt_28 rfl ?_
        refine V_rw (show (mAtF D g i) ||| (1 <<< ((nI i) &&& 31)) = mAtF D g (i + 1) from by rw [mAtF]; first | rw [if_pos c18] | rw [if_neg c18]) ?_
        refine V_istore_n 30 [(2, .int (mAtF D g (i + 1))), (3, .int (nI i)), (0, rf G 26), (1, .int g)] (by decide) rfl rfl dX3_menAt_29 rfl ?_
        refine V_iinc 33 1 rfl (nI (i + 1)) [(3, .int (nI (i + 1))), (2, .int (mAtF D g (i + 1))), (0, rf G 26), (1, .int g)] (nI_1 _) (by decide) rfl dX3_menAt_30 rfl ?_
        refine V_goto 4 rfl dX3_menAt_33 ?_
        exact V_lv [0, 1, 2, 3] rfl ih
  show V _ _ _ _ _ _ _ _ [(0, rf G 26), (1, .int g)] [] _ _ _ _ _
  refine V_iconst 1 (0) rfl dX3_menAt_0 rfl ?_
  refine V_istore_n 2 [(2, .int 0), (0, rf G 26), (1, .int g)] (by decide) rfl rfl dX3_menAt_1 rfl ?_
  refine V_iconst 3 (0) rfl dX3_menAt_2 rfl ?_
  refine V_istore_n 4 [(3, .int 0), (2, .int 0), (0, rf G 26), (1, .int g)] (by decide) rfl rfl dX3_menAt_3 rfl ?_
  exact V_lv [0, 1, 2, 3] rfl (L 0 (by decide))
set_option maxHeartbeats 4000000 in
theorem c_X3_menAtSea_26 {G : Gx} {d : Nat} {I : FI} {R : FR} {J : FJ} {Q : Po} (hRK : RK R) {D : DV}  (hD : DayC I 26 D) (hq : Q (.inl (some (.int (seaF D 6)))) 103 I R J) : Cc G mX3_menAtSea d 0 0 [rf G 26] 103 I R J Q := by
  have L : ∀ i, i ≤ 6 → V G mX3_menAtSea d 0 0 0 0 4 [(2, .int (nI i)), (1, .int (seaF D i)), (0, rf G 26)] [] 103 I R J Q := by
    refine loopd 6 ?_ (fun i hi ih => ?_)
    · refine V_iload_n 5 0 rfl rfl dX3_menAtSea_4 rfl ?_
      refine V_bipush 7 (6) rfl dX3_menAtSea_5 rfl ?_
      refine V_icmp_ge 36 10 rfl dX3_menAtSea_7 rfl (fun c7 => ?_) (fun c7 => absurd (by decide) c7)
      refine V_iload_n 37 1 rfl rfl dX3_menAtSea_36 rfl ?_
      refine V_ret_i rfl rfl (Nat.le_refl _) (fun h => absurd h (by decide)) (Nat.le_refl _) (hq) dX3_menAtSea_37
    · refine V_iload_n 5 0 rfl rfl dX3_menAtSea_4 rfl ?_
      refine V_bipush 7 (6) rfl dX3_menAtSea_5 rfl ?_
      refine V_icmp_ge 36 10 rfl dX3_menAtSea_7 rfl (fun c7 => absurd c7 (nI_ge hi (by decide))) (fun c7 => ?_)
      refine V_iload_n 11 1 rfl rfl dX3_menAtSea_10 rfl ?_
      refine V_aload_n 12 2 rfl _ rfl rfl dX3_menAtSea_11 rfl ?_
      refine V_getR 15 26 3 2 29 (hRK 26 2 (by decide) (by decide) (by decide)) flX3_18 rfl rfl rfl (by decide) dX3_menAtSea_12 rfl ?_
      refine V_iload_n 16 0 rfl rfl dX3_menAtSea_15 rfl ?_
      refine V_ialdN 17 29 6 i (D (6 + i)) (hD.2.2.1 i hi) (by omega) (by decide) rfl (by decide) dX3_menAtSea_16 rfl ?_
      refine V_iconst 18 (-1) rfl dX3_menAtSea_17 rfl ?_
      refine V_icmp_eq 27 21 rfl dX3_menAtSea_18 rfl (fun c18 => ?_) (fun c18 => ?_)
      · refine V_iconst 28 (0) rfl dX3_menAtSea_27 rfl ?_
        refine V_ior 29 dX3_menAtSea_28 rfl ?_
        refine V_rw (show (seaF D i) ||| 0 = seaF D (i + 1) from by rw [seaF]; first | rw [if_pos c18] | rw [if_neg c18]) ?_
        refine V_istore_n 30 [(1, .int (seaF D (i + 1))), (2, .int (nI i)), (0, rf G 26)] (by decide) rfl rfl dX3_menAtSea_29 rfl ?_
        refine V_iinc 33 1 rfl (nI (i + 1)) [(2, .int (nI (i + 1))), (1, .int (seaF D (i + 1))), (0, rf G 26)] (nI_1 _) (by decide) rfl dX3_menAtSea_30 rfl ?_
        refine V_goto 4 rfl dX3_menAtSea_33 ?_
        exact V_lv [0, 1, 2] rfl ih
      · refine V_iconst 22 (1) rfl dX3_menAtSea_21 rfl ?_
        refine V_iload_n 23 0 rfl rfl dX3_menAtSea_22 rfl ?_
        refine V_ishl 24 dX3_menAtSea_23 rfl ?_
        refine V_goto 28 rfl dX3_menAtSea_24 ?_
        refine V_ior 29 dX3_menAtSea_28 rfl ?_
        refine V_rw (show (seaF D i) ||| (1 <<< ((nI i) &&& 31)) = seaF D (i + 1) from by rw [seaF]; first | rw [if_pos c18] | rw [if_neg c18]) ?_
        refine V_istore_n 30 [(1, .int (seaF D (i + 1))), (2, .int (nI i)), (0, rf G 26)] (by decide) rfl rfl dX3_menAtSea_29 rfl ?_
        refine V_iinc 33 1 rfl (nI (i + 1)) [(2, .int (nI (i + 1))), (1, .int (seaF D (i + 1))), (0, rf G 26)] (nI_1 _) (by decide) rfl dX3_menAtSea_30 rfl ?_
        refine V_goto 4 rfl dX3_menAtSea_33 ?_
        exact V_lv [0, 1, 2] rfl ih
  show V _ _ _ _ _ _ _ _ [(0, rf G 26)] [] _ _ _ _ _
  refine V_iconst 1 (0) rfl dX3_menAtSea_0 rfl ?_
  refine V_istore_n 2 [(1, .int 0), (0, rf G 26)] (by decide) rfl rfl dX3_menAtSea_1 rfl ?_
  refine V_iconst 3 (0) rfl dX3_menAtSea_2 rfl ?_
  refine V_istore_n 4 [(2, .int 0), (1, .int 0), (0, rf G 26)] (by decide) rfl rfl dX3_menAtSea_3 rfl ?_
  exact V_lv [0, 1, 2] rfl (L 0 (by decide))
set_option maxHeartbeats 4000000 in
theorem c_X3_hatsWorn_26 {G : Gx} {d : Nat} {I : FI} {R : FR} {J : FJ} {Q : Po} (hRK : RK R) {D : DV}  (hD : DayC I 26 D) (hq : Q (.inl (some (.int (wornF D 6)))) 103 I R J) : Cc G mX3_hatsWorn d 0 0 [rf G 26] 103 I R J Q := by
  have L : ∀ i, i ≤ 6 → V G mX3_hatsWorn d 0 0 0 0 4 [(2, .int (nI i)), (1, .int (wornF D i)), (0, rf G 26)] [] 103 I R J Q := by
    refine loopd 6 ?_ (fun i hi ih => ?_)
    · refine V_iload_n 5 0 rfl rfl dX3_hatsWorn_4 rfl ?_
      refine V_bipush 7 (6) rfl dX3_hatsWorn_5 rfl ?_
      refine V_icmp_ge 41 10 rfl dX3_hatsWorn_7 rfl (fun c7 => ?_) (fun c7 => absurd (by decide) c7)
      refine V_iload_n 42 1 rfl rfl dX3_hatsWorn_41 rfl ?_
      refine V_ret_i rfl rfl (Nat.le_refl _) (fun h => absurd h (by decide)) (Nat.le_refl _) (hq) dX3_hatsWorn_42
    · refine V_iload_n 5 0 rfl rfl dX3_hatsWorn_4 rfl ?_
      refine V_bipush 7 (6) rfl dX3_hatsWorn_5 rfl ?_
      refine V_icmp_ge 41 10 rfl dX3_hatsWorn_7 rfl (fun c7 => absurd c7 (nI_ge hi (by decide))) (fun c7 => ?_)
      refine V_iload_n 11 1 rfl rfl dX3_hatsWorn_10 rfl ?_
      refine V_aload_n 12 2 rfl _ rfl rfl dX3_hatsWorn_11 rfl ?_
      refine V_getR 15 26 3 1 28 (hRK 26 1 (by decide) (by decide) (by decide)) flX3_15 rfl rfl rfl (by decide) dX3_hatsWorn_12 rfl ?_
      refine V_iload_n 16 0 rfl rfl dX3_hatsWorn_15 rfl ?_
      refine V_ialdN 17 28 6 i (D (i)) (hD.2.1 i hi) (by omega) (by decide) rfl (by decide) dX3_hatsWorn_16 rfl ?_
      refine V_iconst 18 (-1) rfl dX3_hatsWorn_17 rfl ?_
      refine V_icmp_eq 32 21 rfl dX3_hatsWorn_18 rfl (fun c18 => ?_) (fun c18 => ?_)
      · refine V_iconst 33 (0) rfl dX3_hatsWorn_32 rfl ?_
        refine V_ior 34 dX3_hatsWorn_33 rfl ?_
        refine V_rw (show (wornF D i) ||| 0 = wornF D (i + 1) from by rw [wornF]; first | rw [if_pos c18] | rw [if_neg c18]) ?_
        refine V_istore_n 35 [(1, .int (wornF D (i + 1))), (2, .int (nI i)), (0, rf G 26)] (by decide) rfl rfl dX3_hatsWorn_34 rfl ?_
        refine V_iinc 38 1 rfl (nI (i + 1)) [(2, .int (nI (i + 1))), (1, .int (wornF D (i + 1))), (0, rf G 26)] (nI_1 _) (by decide) rfl dX3_hatsWorn_35 rfl ?_
        refine V_goto 4 rfl dX3_hatsWorn_38 ?_
        exact V_lv [0, 1, 2] rfl ih
      · refine V_iconst 22 (1) rfl dX3_hatsWorn_21 rfl ?_
        refine V_aload_n 23 2 rfl _ rfl rfl dX3_hatsWorn_22 rfl ?_
        refine V_getR 26 26 3 1 28 (hRK 26 1 (by decide) (by decide) (by decide)) flX3_15 rfl rfl rfl (by decide) dX3_hatsWorn_23 rfl ?_
        refine V_iload_n 27 0 rfl rfl dX3_hatsWorn_26 rfl ?_
        refine V_ialdN 28 28 6 i (D (i)) (hD.2.1 i hi) (by omega) (by decide) rfl (by decide) dX3_hatsWorn_27 rfl ?_
        refine V_ishl 29 dX3_hatsWorn_28 rfl ?_
        refine V_goto 33 rfl dX3_hatsWorn_29 ?_
        refine V_ior 34 dX3_hatsWorn_33 rfl ?_
        refine V_rw (show (wornF D i) ||| (1 <<< ((D (i)) &&& 31)) = wornF D (i + 1) from by rw [wornF]; first | rw [if_pos c18] | rw [if_neg c18]) ?_
        refine V_istore_n 35 [(1, .int (wornF D (i + 1))), (2, .int (nI i)), (0, rf G 26)] (by decide) rfl rfl dX3_hatsWorn_34 rfl ?_
        refine V_iinc 38 1 rfl (nI (i + 1)) [(2, .int (nI (i + 1))), (1, .int (wornF D (i + 1))), (0, rf G 26)] (nI_1 _) (by decide) rfl dX3_hatsWorn_35 rfl ?_
        refine V_goto 4 rfl dX3_hatsWorn_38 ?_
        exact V_lv [0, 1, 2] rfl ih
  show V _ _ _ _ _ _ _ _ [(0, rf G 26)] [] _ _ _ _ _
  refine V_iconst 1 (0) rfl dX3_hatsWorn_0 rfl ?_
  refine V_istore_n 2 [(1, .int 0), (0, rf G 26)] (by decide) rfl rfl dX3_hatsWorn_1 rfl ?_
  refine V_iconst 3 (0) rfl dX3_hatsWorn_2 rfl ?_
  refine V_istore_n 4 [(2, .int 0), (1, .int 0), (0, rf G 26)] (by decide) rfl rfl dX3_hatsWorn_3 rfl ?_
  exact V_lv [0, 1, 2] rfl (L 0 (by decide))
set_option maxHeartbeats 4000000 in
theorem c_X3_fishLeft_26 {G : Gx} {d : Nat} {I : FI} {R : FR} {J : FJ} {Q : Po} (hRK : RK R) {D : DV}  (hD : DayC I 26 D) (hq : Q (.inl (some (.int (sumF D 44 6)))) 103 I R J) : Cc G mX3_fishLeft d 0 0 [rf G 26] 103 I R J Q := by
  have L : ∀ i, i ≤ 6 → V G mX3_fishLeft d 0 0 0 0 4 [(2, .int (nI i)), (1, .int (sumF D 44 i)), (0, rf G 26)] [] 103 I R J Q := by
    refine loopd 6 ?_ (fun i hi ih => ?_)
    · refine V_iload_n 5 0 rfl rfl dX3_fishLeft_4 rfl ?_
      refine V_bipush 7 (6) rfl dX3_fishLeft_5 rfl ?_
      refine V_icmp_ge 25 10 rfl dX3_fishLeft_7 rfl (fun c7 => ?_) (fun c7 => absurd (by decide) c7)
      refine V_iload_n 26 1 rfl rfl dX3_fishLeft_25 rfl ?_
      refine V_ret_i rfl rfl (Nat.le_refl _) (fun h => absurd h (by decide)) (Nat.le_refl _) (hq) dX3_fishLeft_26
    · refine V_iload_n 5 0 rfl rfl dX3_fishLeft_4 rfl ?_
      refine V_bipush 7 (6) rfl dX3_fishLeft_5 rfl ?_
      refine V_icmp_ge 25 10 rfl dX3_fishLeft_7 rfl (fun c7 => absurd c7 (nI_ge hi (by decide))) (fun c7 => ?_)
      refine V_iload_n 11 1 rfl rfl dX3_fishLeft_10 rfl ?_
      refine V_aload_n 12 2 rfl _ rfl rfl dX3_fishLeft_11 rfl ?_
      refine V_getR 15 26 3 6 33 (hRK 26 6 (by decide) (by decide) (by decide)) flX3_30 rfl rfl rfl (by decide) dX3_fishLeft_12 rfl ?_
      refine V_iload_n 16 0 rfl rfl dX3_fishLeft_15 rfl ?_
      refine V_ialdN 17 33 6 i (D (44 + i)) (hD.2.2.2.2.2.2.1 i hi) (by omega) (by decide) rfl (by decide) dX3_fishLeft_16 rfl ?_
      refine V_iadd 18 dX3_fishLeft_17 rfl ?_
      refine V_rw (show (sumF D 44 i) + (D (44 + i)) = sumF D 44 (i + 1) from by rfl) ?_
      refine V_istore_n 19 [(1, .int (sumF D 44 (i + 1))), (2, .int (nI i)), (0, rf G 26)] (by decide) rfl rfl dX3_fishLeft_18 rfl ?_
      refine V_iinc 22 1 rfl (nI (i + 1)) [(2, .int (nI (i + 1))), (1, .int (sumF D 44 (i + 1))), (0, rf G 26)] (nI_1 _) (by decide) rfl dX3_fishLeft_19 rfl ?_
      refine V_goto 4 rfl dX3_fishLeft_22 ?_
      exact V_lv [0, 1, 2] rfl ih
  show V _ _ _ _ _ _ _ _ [(0, rf G 26)] [] _ _ _ _ _
  refine V_iconst 1 (0) rfl dX3_fishLeft_0 rfl ?_
  refine V_istore_n 2 [(1, .int 0), (0, rf G 26)] (by decide) rfl rfl dX3_fishLeft_1 rfl ?_
  refine V_iconst 3 (0) rfl dX3_fishLeft_2 rfl ?_
  refine V_istore_n 4 [(2, .int 0), (1, .int 0), (0, rf G 26)] (by decide) rfl rfl dX3_fishLeft_3 rfl ?_
  exact V_lv [0, 1, 2] rfl (L 0 (by decide))
set_option maxHeartbeats 4000000 in
theorem c_X3_fishLanded_26 {G : Gx} {d : Nat} {I : FI} {R : FR} {J : FJ} {Q : Po} (hRK : RK R) {D : DV}  (hD : DayC I 26 D) (hq : Q (.inl (some (.int (sumF D 24 6)))) 103 I R J) : Cc G mX3_fishLanded d 0 0 [rf G 26] 103 I R J Q := by
  have L : ∀ i, i ≤ 6 → V G mX3_fishLanded d 0 0 0 0 4 [(2, .int (nI i)), (1, .int (sumF D 24 i)), (0, rf G 26)] [] 103 I R J Q := by
    refine loopd 6 ?_ (fun i hi ih => ?_)
    · refine V_iload_n 5 0 rfl rfl dX3_fishLanded_4 rfl ?_
      refine V_bipush 7 (6) rfl dX3_fishLanded_5 rfl ?_
      refine V_icmp_ge 25 10 rfl dX3_fishLanded_7 rfl (fun c7 => ?_) (fun c7 => absurd (by decide) c7)
      refine V_iload_n 26 1 rfl rfl dX3_fishLanded_25 rfl ?_
      refine V_ret_i rfl rfl (Nat.le_refl _) (fun h => absurd h (by decide)) (Nat.le_refl _) (hq) dX3_fishLanded_26
    · refine V_iload_n 5 0 rfl rfl dX3_fishLanded_4 rfl ?_
      refine V_bipush 7 (6) rfl dX3_fishLanded_5 rfl ?_
      refine V_icmp_ge 25 10 rfl dX3_fishLanded_7 rfl (fun c7 => absurd c7 (nI_ge hi (by decide))) (fun c7 => ?_)
      refine V_iload_n 11 1 rfl rfl dX3_fishLanded_10 rfl ?_
      refine V_aload_n 12 2 rfl _ rfl rfl dX3_fishLanded_11 rfl ?_
      refine V_getR 15 26 3 4 31 (hRK 26 4 (by decide) (by decide) (by decide)) flX3_24 rfl rfl rfl (by decide) dX3_fishLanded_12 rfl ?_
      refine V_iload_n 16 0 rfl rfl dX3_fishLanded_15 rfl ?_
      refine V_ialdN 17 31 6 i (D (24 + i)) (hD.2.2.2.2.1 i hi) (by omega) (by decide) rfl (by decide) dX3_fishLanded_16 rfl ?_
      refine V_iadd 18 dX3_fishLanded_17 rfl ?_
      refine V_rw (show (sumF D 24 i) + (D (24 + i)) = sumF D 24 (i + 1) from by rfl) ?_
      refine V_istore_n 19 [(1, .int (sumF D 24 (i + 1))), (2, .int (nI i)), (0, rf G 26)] (by decide) rfl rfl dX3_fishLanded_18 rfl ?_
      refine V_iinc 22 1 rfl (nI (i + 1)) [(2, .int (nI (i + 1))), (1, .int (sumF D 24 (i + 1))), (0, rf G 26)] (nI_1 _) (by decide) rfl dX3_fishLanded_19 rfl ?_
      refine V_goto 4 rfl dX3_fishLanded_22 ?_
      exact V_lv [0, 1, 2] rfl ih
  show V _ _ _ _ _ _ _ _ [(0, rf G 26)] [] _ _ _ _ _
  refine V_iconst 1 (0) rfl dX3_fishLanded_0 rfl ?_
  refine V_istore_n 2 [(1, .int 0), (0, rf G 26)] (by decide) rfl rfl dX3_fishLanded_1 rfl ?_
  refine V_iconst 3 (0) rfl dX3_fishLanded_2 rfl ?_
  refine V_istore_n 4 [(2, .int 0), (1, .int 0), (0, rf G 26)] (by decide) rfl rfl dX3_fishLanded_3 rfl ?_
  exact V_lv [0, 1, 2] rfl (L 0 (by decide))
