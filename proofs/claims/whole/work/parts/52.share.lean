/-! ===== share ===== -/
def gN (a : Nat → Nat) (s : Int32) (b : Nat) : Nat → Nat
  | 0 => 0
  | m + 1 => gN a s b m + (if (s >>> (nI m &&& 31)) &&& 1 = 1 then min b (a m) else 0)
def lvN (g : Nat → Nat) (n : Nat) : Nat → Nat → Nat → Nat
  | 0, lo, _ => lo
  | k + 1, lo, hi => if hi ≤ lo then lo else if n < g ((lo + hi + 1) / 2) then lvN g n k lo ((lo + hi + 1) / 2 - 1) else lvN g n k ((lo + hi + 1) / 2) hi
def aF (D : DV) (m : Nat) : Nat := (D (24 + m)).toNatClampNeg
theorem aF_ok {D : DV} (h : Fsh D) : ∀ m, m < 6 → D (24 + m) = nI (aF D m) ∧ aF D m ≤ 5994 := by
  obtain ⟨a, l, h1, _, h3⟩ := h
  intro m hm
  have hs : a m ≤ 5994 := by
    rcases (show m = 0 ∨ m = 1 ∨ m = 2 ∨ m = 3 ∨ m = 4 ∨ m = 5 by omega) with rfl | rfl | rfl | rfl | rfl | rfl <;> omega
  have e : aF D m = a m := by unfold aF; rw [h1 m hm, nI_clamp (by omega)]
  rw [e]
  exact ⟨h1 m hm, hs⟩
theorem and01 (x : Int32) : x &&& 1 = 0 ∨ x &&& 1 = 1 := by
  obtain ⟨j, hj, e⟩ := pk_andE x (m := 1) 1 (by decide)
  rw [e]
  rcases (show j = 0 ∨ j = 1 by omega) with rfl | rfl
  · exact Or.inl rfl
  · exact Or.inr rfl
theorem gN_le {a : Nat → Nat} {s : Int32} {b : Nat} : ∀ m, gN a s b m ≤ m * b := by
  intro m
  induction m with
  | zero => exact Nat.zero_le _
  | succ m ih =>
    rw [gN, Nat.succ_mul]
    have : (if (s >>> (nI m &&& 31)) &&& 1 = 1 then min b (a m) else 0) ≤ b := by
      split
      · exact Nat.min_le_left _ _
      · exact Nat.zero_le _
    omega
theorem gN_mono {a : Nat → Nat} {s : Int32} {b b' : Nat} (h : b ≤ b') : ∀ m, gN a s b m ≤ gN a s b' m := by
  intro m
  induction m with
  | zero => exact Nat.le_refl _
  | succ m ih =>
    rw [gN, gN]
    split
    · have : min b (a m) ≤ min b' (a m) := by omega
      omega
    · omega
theorem gN_to {a : Nat → Nat} {s : Int32} {b M : Nat} (h : ∀ m, M ≤ m → m < 6 → a m = 0) : ∀ k, M + k ≤ 6 → gN a s b (M + k) = gN a s b M := by
  intro k
  induction k with
  | zero => intro _; rfl
  | succ k ih =>
    intro hk
    rw [← Nat.add_assoc, gN, ih (by omega), h (M + k) (by omega) (by omega), Nat.min_zero, ite_self, Nat.add_zero]
theorem lvN_ok {g : Nat → Nat} {n : Nat} : ∀ k lo hi, lo ≤ hi → hi - lo < 2 ^ k → g lo ≤ n → lo ≤ lvN g n k lo hi ∧ lvN g n k lo hi ≤ hi ∧ g (lvN g n k lo hi) ≤ n ∧ ((∀ b b', b ≤ b' → g b ≤ g b') → ∀ b, lvN g n k lo hi < b → b ≤ hi → n < g b) := by
  intro k
  induction k with
  | zero =>
    intro lo hi h1 h2 h3
    have : lo = hi := by have : (2 : Nat) ^ 0 = 1 := rfl; omega
    subst this
    exact ⟨Nat.le_refl _, Nat.le_refl _, h3, fun _ b q1 q2 => absurd q1 (by show ¬ lo < b; omega)⟩
  | succ k ih =>
    intro lo hi h1 h2 h3
    have h2' : hi - lo < 2 * 2 ^ k := by rw [Nat.pow_succ] at h2; omega
    rw [lvN]
    split
    · exact ⟨Nat.le_refl _, h1, h3, fun _ b q1 q2 => absurd q1 (by omega)⟩
    · split
      · rename_i c1 c2
        obtain ⟨r1, r2, r3, r4⟩ := ih lo ((lo + hi + 1) / 2 - 1) (by omega) (by omega) h3
        refine ⟨r1, by omega, r3, fun hm b q1 q2 => ?_⟩
        by_cases c : b ≤ (lo + hi + 1) / 2 - 1
        · exact r4 hm b q1 c
        · exact Nat.lt_of_lt_of_le c2 (hm _ _ (by omega))
      · rename_i c1 c2
        obtain ⟨r1, r2, r3, r4⟩ := ih ((lo + hi + 1) / 2) hi (by omega) (by omega) (by omega)
        exact ⟨by omega, r2, r3, r4⟩
theorem sh_eq {g : Nat → Nat} {n a : Nat} (hm : ∀ b b', b ≤ b' → g b ≤ g b') (h0 : g 0 ≤ n) (ha : a ≤ 5994) : min a (lvN g n 14 0 9999) = min a (lvN g n 32 0 6000) := by
  obtain ⟨a1, a2, a3, a4⟩ := lvN_ok (g := g) (n := n) 14 0 9999 (Nat.zero_le _) (by decide) h0
  obtain ⟨b1, b2, b3, b4⟩ := lvN_ok (g := g) (n := n) 32 0 6000 (Nat.zero_le _) (by decide) h0
  obtain ⟨r, er⟩ : ∃ r, r = lvN g n 14 0 9999 := ⟨_, rfl⟩
  obtain ⟨q, eq⟩ : ∃ q, q = lvN g n 32 0 6000 := ⟨_, rfl⟩
  rw [← er] at a1 a2 a3 a4 ⊢
  rw [← eq] at b1 b2 b3 b4 ⊢
  by_cases c : r < q
  · have := a4 hm q c (by omega)
    omega
  by_cases c2 : q < r
  · by_cases c3 : r ≤ 6000
    · have := b4 hm r c2 c3
      omega
    by_cases c4 : q < 6000
    · have x1 := b4 hm 6000 c4 (Nat.le_refl _)
      have x2 := hm 6000 r (by omega)
      omega
    omega
  rw [show r = q by omega]
def shF (D : DV) (s : Int32) (n m : Nat) : Int32 := if (s >>> (nI m &&& 31)) &&& 1 = 0 then 0 else nI (min (aF D m) (lvN (fun b => gN (aF D) s b 6) n 32 0 6000))
theorem msk_iff {M : Nat} {y : Int32} (h : M ≤ 6) : (0 ≤ y ∧ y ≤ (1 : Int32) <<< (nI M &&& 31) - 1) ↔ ¬ y < 0 ∧ ¬ (1 : Int32) <<< (nI M &&& 31) ≤ y := by
  obtain ⟨k, e1, e2⟩ : ∃ k : Nat, ((1 : Int32) <<< (nI M &&& 31)).toInt = (k : Int) + 1 ∧ ((1 : Int32) <<< (nI M &&& 31) - 1).toInt = (k : Int) := by
    rcases (show M = 0 ∨ M = 1 ∨ M = 2 ∨ M = 3 ∨ M = 4 ∨ M = 5 ∨ M = 6 by omega) with rfl | rfl | rfl | rfl | rfl | rfl | rfl
    · exact ⟨0, by decide +kernel, by decide +kernel⟩
    · exact ⟨1, by decide +kernel, by decide +kernel⟩
    · exact ⟨3, by decide +kernel, by decide +kernel⟩
    · exact ⟨7, by decide +kernel, by decide +kernel⟩
    · exact ⟨15, by decide +kernel, by decide +kernel⟩
    · exact ⟨31, by decide +kernel, by decide +kernel⟩
    · exact ⟨63, by decide +kernel, by decide +kernel⟩
  have z : (0 : Int32).toInt = 0 := rfl
  rw [Int32.le_iff_toInt_le, Int32.le_iff_toInt_le, Int32.le_iff_toInt_le, Int32.lt_iff_toInt_lt, e1, e2, z]
  omega
theorem mid_eq {lo hi : Nat} (h : lo + hi + 1 < 2 ^ 31) : nI (lo + hi + 1) / 2 = nI ((lo + hi + 1) / 2) := pk_div (d := 2) h (by decide) (by decide)
theorem min_eq {a b : Nat} (ha : a < 2 ^ 31) (hb : b < 2 ^ 31) : (if nI b < nI a then nI b else nI a) = nI (min b a) := by
  by_cases c : b < a
  · rw [if_pos ((nI_ltI hb ha).mpr c), Nat.min_eq_left (by omega)]
  · rw [if_neg (fun q => c ((nI_ltI hb ha).mp q)), Nat.min_eq_right (by omega)]
set_option maxHeartbeats 4000000 in
theorem c_X3_givenBy {G : Gx} {d : Nat} {I : FI} {R : FR} {J : FJ} {Q : Po} (hRK : RK R) {D : DV} (hD : DayC I 18 D) (hF : Fsh D) {b : Nat} {y : Int32} (hb : b ≤ 9999) (hq : Q (.inl (some (.int (nI (gN (aF D) y b 6))))) 103 I R J) : Cc G mX3_givenBy d 0 0 [rf G 18, .int (nI b), .int y] 103 I R J Q := by
  have hA := aF_ok hF
  have L : ∀ i, i ≤ 6 → V G mX3_givenBy (d) 0 0 0 0 5 [(4, .int (nI i)), (3, .int (nI (gN (aF D) y b i))), (0, rf G 18), (1, .int (nI b)), (2, .int y)] [] 103 I R J Q := by
    refine loopd 6 ?_ (fun i hi ih => ?_)
    · refine V_iload 7 0 rfl dX3_givenBy_5 rfl ?_
      refine V_bipush 9 (6) rfl dX3_givenBy_7 rfl ?_
      refine V_icmp_ge 46 12 rfl dX3_givenBy_9 rfl (fun c9 => ?_) (fun c9 => absurd (Int32.le_refl _) c9)
      refine V_iload_n 47 1 rfl rfl dX3_givenBy_46 rfl ?_
      refine V_ret_i rfl rfl (Nat.le_of_ble_eq_true rfl) (fun h => absurd h (by decide)) (Nat.le_of_ble_eq_true rfl) (hq) dX3_givenBy_47
    · refine V_iload 7 0 rfl dX3_givenBy_5 rfl ?_
      refine V_bipush 9 (6) rfl dX3_givenBy_7 rfl ?_
      refine V_icmp_ge 46 12 rfl dX3_givenBy_9 rfl (fun c9 => absurd c9 (nI_ge (b := 6) hi (by decide))) (fun c9 => ?_)
      refine V_iload_n 13 1 rfl rfl dX3_givenBy_12 rfl ?_
      refine V_iload_n 14 4 rfl rfl dX3_givenBy_13 rfl ?_
      refine V_iload 16 0 rfl dX3_givenBy_14 rfl ?_
      refine V_ishr 17 dX3_givenBy_16 rfl ?_
      refine V_iconst 18 (1) rfl dX3_givenBy_17 rfl ?_
      refine V_iand 19 dX3_givenBy_18 rfl ?_
      refine V_iconst 20 (1) rfl dX3_givenBy_19 rfl ?_
      refine V_icmp_ne 37 23 rfl dX3_givenBy_20 rfl (fun c20 => ?_) (fun c20 => ?_)
      · refine V_iconst 38 (0) rfl dX3_givenBy_37 rfl ?_
        refine V_iadd 39 dX3_givenBy_38 rfl ?_
        refine V_rw (show _ = nI (gN (aF D) y b (i + 1)) from by have ha := (hA i hi).2; rw [gN]; first | (rw [if_pos c20, min_eq (by omega) (by omega)]; exact nI_add _ _) | (rw [if_neg c20, Nat.add_zero]; exact Int32.add_zero _)) ?_
        refine V_istore_n 40 [(3, .int (nI (gN (aF D) y b (i + 1)))), (4, .int (nI i)), (0, rf G 18), (1, .int (nI b)), (2, .int y)] (by decide) rfl rfl dX3_givenBy_39 rfl ?_
        refine V_iinc 43 1 rfl (nI (i + 1)) [(4, .int (nI (i + 1))), (3, .int (nI (gN (aF D) y b (i + 1)))), (0, rf G 18), (1, .int (nI b)), (2, .int y)] (nI_1 _) (by decide) rfl dX3_givenBy_40 rfl ?_
        refine V_goto 5 rfl dX3_givenBy_43 ?_
        exact V_lv [0, 1, 2, 3, 4] rfl (ih)
      · refine V_aload_n 24 2 rfl _ rfl rfl dX3_givenBy_23 rfl ?_
        refine V_getR 27 18 3 4 23 (hRK 18 4 (by decide) (by decide) (by decide)) flX3_24 rfl rfl rfl (by decide) dX3_givenBy_24 rfl ?_
        refine V_iload 29 0 rfl dX3_givenBy_27 rfl ?_
        refine V_ialdN 30 23 6 i (nI (aF D i)) ((hD.2.2.2.2.1 i (by omega)).trans (hA i (by omega)).1) (by omega) (by decide) rfl (by decide) dX3_givenBy_29 rfl ?_
        refine V_iload_n 31 3 rfl rfl dX3_givenBy_30 rfl ?_
        refine V_min 34 lkX3_63 (Nat.le_of_ble_eq_true rfl) (Nat.le_of_ble_eq_true rfl) (Nat.le_of_ble_eq_true rfl) dX3_givenBy_31 rfl ?_
        refine V_goto 38 rfl dX3_givenBy_34 ?_
        refine V_iadd 39 dX3_givenBy_38 rfl ?_
        refine V_rw (show _ = nI (gN (aF D) y b (i + 1)) from by have ha := (hA i hi).2; rw [gN]; first | (rw [if_pos c20, min_eq (by omega) (by omega)]; exact nI_add _ _) | (rw [if_neg c20, Nat.add_zero]; exact Int32.add_zero _)) ?_
        refine V_istore_n 40 [(3, .int (nI (gN (aF D) y b (i + 1)))), (4, .int (nI i)), (0, rf G 18), (1, .int (nI b)), (2, .int y)] (by decide) rfl rfl dX3_givenBy_39 rfl ?_
        refine V_iinc 43 1 rfl (nI (i + 1)) [(4, .int (nI (i + 1))), (3, .int (nI (gN (aF D) y b (i + 1)))), (0, rf G 18), (1, .int (nI b)), (2, .int y)] (nI_1 _) (by decide) rfl dX3_givenBy_40 rfl ?_
        refine V_goto 5 rfl dX3_givenBy_43 ?_
        exact V_lv [0, 1, 2, 3, 4] rfl (ih)
  show V _ _ _ _ _ _ _ _ [(0, rf G 18), (1, .int (nI b)), (2, .int y)] [] _ _ _ _ _
  refine V_iconst 1 (0) rfl dX3_givenBy_0 rfl ?_
  refine V_istore_n 2 [(3, .int 0), (0, rf G 18), (1, .int (nI b)), (2, .int y)] (by decide) rfl rfl dX3_givenBy_1 rfl ?_
  refine V_iconst 3 (0) rfl dX3_givenBy_2 rfl ?_
  refine V_istore 5 [(4, .int 0), (3, .int 0), (0, rf G 18), (1, .int (nI b)), (2, .int y)] (by decide) rfl dX3_givenBy_3 rfl ?_
  exact V_lv [0, 1, 2, 3, 4] rfl (L 0 (Nat.zero_le _))
set_option maxHeartbeats 4000000 in
theorem c_X3_levelFor {G : Gx} {d : Nat} {I : FI} {R : FR} {J : FJ} {Q : Po} (hRK : RK R) {D : DV} (hD : DayC I 18 D) (hF : Fsh D) {n : Nat} {y : Int32} (hn : n ≤ 9999) (hq : Q (.inl (some (.int (nI (lvN (fun b => gN (aF D) y b 6) n 32 0 6000))))) 103 I R J) : Cc G mX3_levelFor (d + 1) 0 0 [rf G 18, .int y, .int (nI n)] 103 I R J Q := by
  have L : ∀ k, k ≤ 32 → ∀ lo hi, lo ≤ 6000 → hi ≤ 6000 → Q (.inl (some (.int (nI (lvN (fun b => gN (aF D) y b 6) n k lo hi))))) 103 I R J → V G mX3_levelFor (d + 1) 0 0 0 0 10 [(5, .int (nI (32 - k))), (3, .int (nI lo)), (4, .int (nI hi)), (0, rf G 18), (1, .int y), (2, .int (nI n))] [] 103 I R J Q := by
    intro k
    induction k with
    | zero =>
      intro _ lo hi h1 h2 hq
      show V _ _ _ _ _ _ _ _ [(5, .int (nI 32)), (3, .int (nI lo)), (4, .int (nI hi)), (0, rf G 18), (1, .int y), (2, .int (nI n))] [] _ _ _ _ _
      refine V_iload 12 0 rfl dX3_levelFor_10 rfl ?_
      refine V_bipush 14 (32) rfl dX3_levelFor_12 rfl ?_
      refine V_icmp_ge 62 17 rfl dX3_levelFor_14 rfl (fun c14 => ?_) (fun c14 => absurd (Int32.le_refl _) c14)
      refine V_iload_n 63 1 rfl rfl dX3_levelFor_62 rfl ?_
      refine V_ret_i rfl rfl (Nat.le_of_ble_eq_true rfl) (fun h => absurd h (by decide)) (Nat.le_of_ble_eq_true rfl) (hq) dX3_levelFor_63
    | succ k ih =>
      intro hk lo hi h1 h2 hq
      rw [lvN] at hq
      have gb := gN_le (a := aF D) (s := y) (b := (lo + hi + 1) / 2) 6
      have eI : nI (32 - (k + 1)) + Int32.ofInt 1 = nI (32 - k) := (nI_1 _).trans (by congr 1; omega)
      refine V_iload 12 0 rfl dX3_levelFor_10 rfl ?_
      refine V_bipush 14 (32) rfl dX3_levelFor_12 rfl ?_
      refine V_icmp_ge 62 17 rfl dX3_levelFor_14 rfl (fun c14 => absurd c14 (nI_ge (b := 32) (show 32 - (k + 1) < 32 by omega) (by decide))) (fun c14 => ?_)
      refine V_iload_n 18 1 rfl rfl dX3_levelFor_17 rfl ?_
      refine V_iload 20 2 rfl dX3_levelFor_18 rfl ?_
      refine V_icmp_ge 62 23 rfl dX3_levelFor_20 rfl (fun c20 => ?_) (fun c20 => ?_)
      · refine V_iload_n 63 1 rfl rfl dX3_levelFor_62 rfl ?_
        refine V_ret_i rfl rfl (Nat.le_of_ble_eq_true rfl) (fun h => absurd h (by decide)) (Nat.le_of_ble_eq_true rfl) (by rw [if_pos ((nI_leI (by omega) (by omega)).mp c20)] at hq; exact hq) dX3_levelFor_63
      · refine V_iload_n 24 1 rfl rfl dX3_levelFor_23 rfl ?_
        refine V_iload 26 2 rfl dX3_levelFor_24 rfl ?_
        refine V_iadd 27 dX3_levelFor_26 rfl ?_
        refine V_rw (nI_add lo hi) ?_
        refine V_iconst 28 (1) rfl dX3_levelFor_27 rfl ?_
        refine V_iadd 29 dX3_levelFor_28 rfl ?_
        refine V_rw (nI_add (lo + hi) 1) ?_
        refine V_iconst 30 (2) rfl dX3_levelFor_29 rfl ?_
        refine V_idiv 31 (by decide) dX3_levelFor_30 rfl ?_
        refine V_rw (show _ = nI ((lo + hi + 1) / 2) from by first | exact mid_eq (by omega) | (rw [nI_1]; exact mid_eq (by omega)) | (rw [nI_add, nI_1]; exact mid_eq (by omega))) ?_
        refine V_istore 33 [(6, .int (nI ((lo + hi + 1) / 2))), (5, .int (nI (32 - (k + 1)))), (3, .int (nI lo)), (4, .int (nI hi)), (0, rf G 18), (1, .int y), (2, .int (nI n))] (by decide) rfl dX3_levelFor_31 rfl ?_
        refine V_aload_n 34 4 rfl _ rfl rfl dX3_levelFor_33 rfl ?_
        refine V_iload 36 0 rfl dX3_levelFor_34 rfl ?_
        refine V_iload_n 37 5 rfl rfl dX3_levelFor_36 rfl ?_
        refine V_callV (K' := 0) (S' := 0) 40 18 3 2 [.int (nI ((lo + hi + 1) / 2)), .int y] mkX3_givenBy lkX3_69 (by decide) rfl rfl (by decide) rfl (Nat.le_of_ble_eq_true rfl) (Nat.le_of_ble_eq_true rfl) (Nat.le_of_ble_eq_true rfl) (Nat.le_of_ble_eq_true rfl) rfl rfl dX3_levelFor_37 rfl (c_X3_givenBy hRK hD hF (by omega) ?_)
        refine Kq_i (k' := 0) (sl' := 0) rfl rfl ?_
        refine V_iload_n 41 6 rfl rfl dX3_levelFor_40 rfl ?_
        refine V_icmp_gt 50 44 rfl dX3_levelFor_41 rfl (fun c41 => ?_) (fun c41 => ?_)
        · refine V_iload 52 0 rfl dX3_levelFor_50 rfl ?_
          refine V_iconst 53 (1) rfl dX3_levelFor_52 rfl ?_
          refine V_isub 54 dX3_levelFor_53 rfl ?_
          refine V_rw (show _ = nI ((lo + hi + 1) / 2 - 1) from nI_sub (b := 1) (by have := mt (nI_leI (a := hi) (b := lo) (by omega) (by omega)).mpr c20; omega)) ?_
          refine V_istore 56 [(4, .int (nI ((lo + hi + 1) / 2 - 1))), (6, .int (nI ((lo + hi + 1) / 2))), (5, .int (nI (32 - (k + 1)))), (3, .int (nI lo)), (0, rf G 18), (1, .int y), (2, .int (nI n))] (by decide) rfl dX3_levelFor_54 rfl ?_
          refine V_iinc 59 2 rfl (nI (32 - k)) [(5, .int (nI (32 - k))), (4, .int (nI ((lo + hi + 1) / 2 - 1))), (6, .int (nI ((lo + hi + 1) / 2))), (3, .int (nI lo)), (0, rf G 18), (1, .int y), (2, .int (nI n))] eI (by decide) rfl dX3_levelFor_56 rfl ?_
          refine V_goto 10 rfl dX3_levelFor_59 ?_
          rw [if_neg (fun q => c20 ((nI_leI (by omega) (by omega)).mpr q)), if_pos ((nI_ltI (by omega) (by omega)).mp c41)] at hq
          exact V_lv [0, 3, 1, 4, 5, 6] rfl (ih (by omega) _ _ h1 (by have := mt (nI_leI (a := hi) (b := lo) (by omega) (by omega)).mpr c20; omega) hq)
        · refine V_iload 46 0 rfl dX3_levelFor_44 rfl ?_
          refine V_istore_n 47 [(3, .int (nI ((lo + hi + 1) / 2))), (6, .int (nI ((lo + hi + 1) / 2))), (5, .int (nI (32 - (k + 1)))), (4, .int (nI hi)), (0, rf G 18), (1, .int y), (2, .int (nI n))] (by decide) rfl rfl dX3_levelFor_46 rfl ?_
          refine V_goto 56 rfl dX3_levelFor_47 ?_
          refine V_iinc 59 2 rfl (nI (32 - k)) [(5, .int (nI (32 - k))), (3, .int (nI ((lo + hi + 1) / 2))), (6, .int (nI ((lo + hi + 1) / 2))), (4, .int (nI hi)), (0, rf G 18), (1, .int y), (2, .int (nI n))] eI (by decide) rfl dX3_levelFor_56 rfl ?_
          refine V_goto 10 rfl dX3_levelFor_59 ?_
          rw [if_neg (fun q => c20 ((nI_leI (by omega) (by omega)).mpr q)), if_neg (fun q => c41 ((nI_ltI (by omega) (by omega)).mpr q))] at hq
          exact V_lv [0, 1, 3, 4, 5, 6] rfl (ih (by omega) _ _ (by omega) h2 hq)
  show V _ _ _ _ _ _ _ _ [(0, rf G 18), (1, .int y), (2, .int (nI n))] [] _ _ _ _ _
  refine V_iconst 1 (0) rfl dX3_levelFor_0 rfl ?_
  refine V_istore_n 2 [(3, .int 0), (0, rf G 18), (1, .int y), (2, .int (nI n))] (by decide) rfl rfl dX3_levelFor_1 rfl ?_
  refine V_sipush 5 (6000) rfl dX3_levelFor_2 rfl ?_
  refine V_istore 7 [(4, .int 6000), (3, .int 0), (0, rf G 18), (1, .int y), (2, .int (nI n))] (by decide) rfl dX3_levelFor_5 rfl ?_
  refine V_iconst 8 (0) rfl dX3_levelFor_7 rfl ?_
  refine V_istore 10 [(5, .int 0), (4, .int 6000), (3, .int 0), (0, rf G 18), (1, .int y), (2, .int (nI n))] (by decide) rfl dX3_levelFor_8 rfl ?_
  exact V_lv [0, 2, 1, 3, 4, 5] rfl (L 32 (Nat.le_refl _) 0 6000 (by decide) (Nat.le_refl _) hq)
set_option maxHeartbeats 8000000 in
theorem c_X10_share {G : Gx} {d : Nat} {I : FI} {R : FR} {J : FJ} {Q : Po} {c l b : Nat} {K : CO} {f : DV → Int32} {D : DV} (hX : RC I R c l b K f D) {x y z : Int32}  (hq : Ho I R J Q (ckN x (cM K) (ckW y 0 ((1 : Int32) <<< (nI (cM K) &&& 31) - 1) (ckW z 0 9999 (.inl (shF D y z.toNatClampNeg x.toNatClampNeg)))))) : Cc G mX10_share (d + 60) 8 48 [rf G 0, .int x, .int y, .int z] 103 I R J Q := by
  obtain ⟨hRS, hc, hl, hb, hC, hW, hD, hI, hL⟩ := hX
  have hRK := hRS.K
  have hR3c : R 3 0 = some c := hRS 3 0 (by decide)
  have hR3l : R 3 1 = some l := hRS 3 1 (by decide)
  have hR32 : R 3 2 = some 16 := hRS 3 2 (by decide)
  have hR33 : R 3 3 = some 17 := hRS 3 3 (by decide)
  have h8 := hW.1
  have hg6 := hW.2.1
  have h6 := hW.2.2.1
  have hWD := hI.1
  have hFl := hI.1.1
  show V _ _ _ _ _ _ _ _ [(0, rf G 0), (1, .int x), (2, .int y), (3, .int z)] [] _ _ _ _ _
  refine V_aload_n 1 0 rfl _ rfl rfl dX10_share_0 rfl ?_
  refine V_iload_n 2 1 rfl rfl dX10_share_1 rfl ?_
  refine V_aload_n 3 0 rfl _ rfl rfl dX10_share_2 rfl ?_
  refine V_getR 6 0 10 1 3 (hRS 0 1 (by decide)) flX10_19 rfl rfl rfl (by decide) dX10_share_3 rfl ?_
  refine V_getR 9 3 7 0 c hR3c flX10_85 rfl rfl rfl (by decide) dX10_share_6 rfl ?_
  refine V_getI 12 c 2 8 (nI (cM K)) hC.2.2.1 flX10_127 rfl (ly_c hc).1 rfl (by omega) dX10_share_9 rfl ?_
  refine V_callV (K' := 1) (S' := 6) 15 0 10 2 [.int x, .int (nI (cM K))] mkX10_needOneOf lkX10_187 (by decide) rfl rfl (by decide) rfl (Nat.le_of_ble_eq_true rfl) (Nat.le_of_ble_eq_true rfl) (Nat.le_of_ble_eq_true rfl) (Nat.le_of_ble_eq_true rfl) rfl rfl dX10_share_12 rfl (c_X10_needOneOf (c := cM K) (by omega) (fun i12 => ?_) (fun i12 => by rw [ckN_n (by omega) i12] at hq; exact hq _ rfl))
  refine Kq_v (k' := 1) (sl' := 6) rfl rfl ?_
  rw [ckN_y (by omega) i12] at hq
  obtain ⟨m, hm, rfl⟩ := i12
  refine V_aload_n 16 0 rfl _ rfl rfl dX10_share_15 rfl ?_
  refine V_iload_n 17 2 rfl rfl dX10_share_16 rfl ?_
  refine V_iconst 18 (0) rfl dX10_share_17 rfl ?_
  refine V_iconst 19 (1) rfl dX10_share_18 rfl ?_
  refine V_aload_n 20 0 rfl _ rfl rfl dX10_share_19 rfl ?_
  refine V_getR 23 0 10 1 3 (hRS 0 1 (by decide)) flX10_19 rfl rfl rfl (by decide) dX10_share_20 rfl ?_
  refine V_getR 26 3 7 0 c hR3c flX10_85 rfl rfl rfl (by decide) dX10_share_23 rfl ?_
  refine V_getI 29 c 2 8 (nI (cM K)) hC.2.2.1 flX10_127 rfl (ly_c hc).1 rfl (by omega) dX10_share_26 rfl ?_
  refine V_ishl 30 dX10_share_29 rfl ?_
  refine V_iconst 31 (1) rfl dX10_share_30 rfl ?_
  refine V_isub 32 dX10_share_31 rfl ?_
  refine V_callV (K' := 1) (S' := 6) 35 0 10 3 [.int y, .int 0, .int ((1 <<< ((nI (cM K)) &&& 31)) - 1)] mkX10_needWithin lkX10_158 (by decide) rfl rfl (by decide) rfl (Nat.le_of_ble_eq_true rfl) (Nat.le_of_ble_eq_true rfl) (Nat.le_of_ble_eq_true rfl) (Nat.le_of_ble_eq_true rfl) rfl rfl dX10_share_32 rfl (c_X10_needWithin (fun a32 b32 => ?_) (fun a32 => by rw [ckW_n a32] at hq; exact hq _ rfl))
  refine Kq_v (k' := 2) (sl' := 12) rfl rfl ?_
  rw [ckW_y a32 b32] at hq
  refine V_aload_n 36 0 rfl _ rfl rfl dX10_share_35 rfl ?_
  refine V_iload_n 37 3 rfl rfl dX10_share_36 rfl ?_
  refine V_iconst 38 (0) rfl dX10_share_37 rfl ?_
  refine V_sipush 41 (9999) rfl dX10_share_38 rfl ?_
  refine V_callV (K' := 1) (S' := 6) 44 0 10 3 [.int z, .int 0, .int 9999] mkX10_needWithin lkX10_158 (by decide) rfl rfl (by decide) rfl (Nat.le_of_ble_eq_true rfl) (Nat.le_of_ble_eq_true rfl) (Nat.le_of_ble_eq_true rfl) (Nat.le_of_ble_eq_true rfl) rfl rfl dX10_share_41 rfl (c_X10_needWithin (fun a41 b41 => ?_) (fun a41 => by rw [ckW_n a41] at hq; exact hq _ rfl))
  refine Kq_v (k' := 3) (sl' := 18) rfl rfl ?_
  rw [ckW_y a41 b41] at hq
  obtain ⟨n, hn, rfl⟩ := in_nI (n := 9999) (by decide) a41 b41
  refine V_iload_n 45 2 rfl rfl dX10_share_44 rfl ?_
  refine V_iload_n 46 1 rfl rfl dX10_share_45 rfl ?_
  refine V_ishr 47 dX10_share_46 rfl ?_
  refine V_iconst 48 (1) rfl dX10_share_47 rfl ?_
  refine V_iand 49 dX10_share_48 rfl ?_
  refine V_if_ne 54 52 rfl dX10_share_49 rfl (fun c49 => ?_) (fun c49 => ?_)
  · refine V_aload_n 55 0 rfl _ rfl rfl dX10_share_54 rfl ?_
    refine V_getR 58 0 10 2 18 (hRS 0 2 (by decide)) flX10_26 rfl rfl rfl (by decide) dX10_share_55 rfl ?_
    refine V_getR 61 18 3 4 23 (hRK 18 4 (by decide) (by decide) (by decide)) flX10_231 rfl rfl rfl (by decide) dX10_share_58 rfl ?_
    refine V_iload_n 62 1 rfl rfl dX10_share_61 rfl ?_
    refine V_ialdN 63 23 6 m (D (24 + m)) (hD.2.2.2.2.1 m (by omega)) (by omega) (by decide) rfl (by decide) dX10_share_62 rfl ?_
    refine V_aload_n 64 0 rfl _ rfl rfl dX10_share_63 rfl ?_
    refine V_getR 67 0 10 2 18 (hRS 0 2 (by decide)) flX10_26 rfl rfl rfl (by decide) dX10_share_64 rfl ?_
    refine V_iload_n 68 2 rfl rfl dX10_share_67 rfl ?_
    refine V_iload_n 69 3 rfl rfl dX10_share_68 rfl ?_
    refine V_callV (K' := 0) (S' := 0) 72 18 3 2 [.int y, .int (nI n)] mkX3_levelFor lkX10_323 (by decide) rfl rfl (by decide) rfl (Nat.le_of_ble_eq_true rfl) (Nat.le_of_ble_eq_true rfl) (Nat.le_of_ble_eq_true rfl) (Nat.le_of_ble_eq_true rfl) rfl rfl dX10_share_69 rfl (c_X3_levelFor hRS.K hD hI.2.2.2.2.1 hn ?_)
    refine Kq_i (k' := 3) (sl' := 18) rfl rfl ?_
    refine V_min 75 lkX10_326 (Nat.le_of_ble_eq_true rfl) (Nat.le_of_ble_eq_true rfl) (Nat.le_of_ble_eq_true rfl) dX10_share_72 rfl ?_
    refine V_ret_i rfl rfl (Nat.le_of_ble_eq_true rfl) (fun h => absurd h (by decide)) (Nat.le_of_ble_eq_true rfl) (by rw [nI_clamp (show n < 2 ^ 31 by omega), nI_clamp (show m < 2 ^ 31 by omega)] at hq; rw [shF, if_neg c49] at hq; have ha := aF_ok hI.2.2.2.2.1 m (by omega); have lb := lvN_ok (g := fun b => gN (aF D) y b 6) (n := n) 32 0 6000 (Nat.zero_le _) (by decide) (Nat.le_trans (gN_le 6) (by omega)); rw [ha.1, min_eq (by omega) (by omega), Nat.min_comm]; exact hq I FrQ.rf) dX10_share_75
  · refine V_iconst 53 (0) rfl dX10_share_52 rfl ?_
    refine V_ret_i rfl rfl (Nat.le_of_ble_eq_true rfl) (fun h => absurd h (by decide)) (Nat.le_of_ble_eq_true rfl) (by rw [nI_clamp (show n < 2 ^ 31 by omega), nI_clamp (show m < 2 ^ 31 by omega)] at hq; rw [shF, if_pos c49] at hq; exact hq I FrQ.rf) dX10_share_53
set_option maxHeartbeats 4000000 in
theorem c_X11_sharedBy {G : Gx} {d : Nat} {I : FI} {R : FR} {J : FJ} {Q : Po} (hRM : ∀ k, R 69 k = refM k) {K : CO} {D : DV} (hK : CoastM I K) (h6 : cM K ≤ 6) (h88 : ∀ k, k < 51 → I 88 k = D k) (hF : Fsh D) {b : Nat} {y : Int32} (hb : b ≤ 9999) (hq : Q (.inl (some (.int (nI (gN (aF D) y b (cM K)))))) 103 I R J) : Cc G mX11_sharedBy d 0 0 [rf G 69, .int y, .int (nI b)] 103 I R J Q := by
  have hA := aF_ok hF
  have L : ∀ i, i ≤ cM K → V G mX11_sharedBy (d) 0 0 0 0 5 [(4, .int (nI i)), (3, .int (nI (gN (aF D) y b i))), (0, rf G 69), (1, .int y), (2, .int (nI b))] [] 103 I R J Q := by
    refine loopd (cM K) ?_ (fun i hi ih => ?_)
    · refine V_iload 7 0 rfl dX11_sharedBy_5 rfl ?_
      refine V_aload_n 8 2 rfl _ rfl rfl dX11_sharedBy_7 rfl ?_
      refine V_getI 11 69 11 23 (nI (cM K)) hK.2.2.1 flX11_181 rfl rfl rfl (by decide) dX11_sharedBy_8 rfl ?_
      refine V_icmp_ge 58 14 rfl dX11_sharedBy_11 rfl (fun c11 => ?_) (fun c11 => absurd (Int32.le_refl _) c11)
      refine V_iload_n 59 1 rfl rfl dX11_sharedBy_58 rfl ?_
      refine V_ret_i rfl rfl (Nat.le_of_ble_eq_true rfl) (fun h => absurd h (by decide)) (Nat.le_of_ble_eq_true rfl) (hq) dX11_sharedBy_59
    · refine V_iload 7 0 rfl dX11_sharedBy_5 rfl ?_
      refine V_aload_n 8 2 rfl _ rfl rfl dX11_sharedBy_7 rfl ?_
      refine V_getI 11 69 11 23 (nI (cM K)) hK.2.2.1 flX11_181 rfl rfl rfl (by decide) dX11_sharedBy_8 rfl ?_
      refine V_icmp_ge 58 14 rfl dX11_sharedBy_11 rfl (fun c11 => absurd c11 (nI_ge hi (by omega))) (fun c11 => ?_)
      refine V_iload_n 15 1 rfl rfl dX11_sharedBy_14 rfl ?_
      refine V_iload_n 16 3 rfl rfl dX11_sharedBy_15 rfl ?_
      refine V_iload 18 0 rfl dX11_sharedBy_16 rfl ?_
      refine V_ishr 19 dX11_sharedBy_18 rfl ?_
      refine V_iconst 20 (1) rfl dX11_sharedBy_19 rfl ?_
      refine V_iand 21 dX11_sharedBy_20 rfl ?_
      refine V_aload_n 22 2 rfl _ rfl rfl dX11_sharedBy_21 rfl ?_
      refine V_getR 25 69 11 40 88 (hRM 40) flX11_71 rfl rfl rfl (by decide) dX11_sharedBy_22 rfl ?_
      refine V_bipush 27 (24) rfl dX11_sharedBy_25 rfl ?_
      refine V_iload 29 0 rfl dX11_sharedBy_27 rfl ?_
      refine V_iadd 30 dX11_sharedBy_29 rfl ?_
      refine V_rw (show _ = nI (24 + i) from nI_add 24 i) ?_
      refine V_ialdN 31 88 51 (24 + i) (nI (aF D i)) ((h88 (24 + i) (by omega)).trans (hA i (by omega)).1) (by omega) (by decide) rfl (by decide) dX11_sharedBy_30 rfl ?_
      refine V_iload_n 32 4 rfl rfl dX11_sharedBy_31 rfl ?_
      refine V_icmp_ge 48 35 rfl dX11_sharedBy_32 rfl (fun c32 => ?_) (fun c32 => ?_)
      · refine V_iload_n 49 4 rfl rfl dX11_sharedBy_48 rfl ?_
        refine V_imul 50 dX11_sharedBy_49 rfl ?_
        refine V_iadd 51 dX11_sharedBy_50 rfl ?_
        have eS : (nI (gN (aF D) y b i)) + (((y >>> ((nI i) &&& 31)) &&& 1) * (nI b)) = nI (gN (aF D) y b (i + 1)) := by
          have ha := (hA i (by omega)).2
          rw [gN]
          rcases and01 (y >>> (nI i &&& 31)) with e | e
          · rw [e, if_neg (by decide), Int32.zero_mul, Nat.add_zero]; exact Int32.add_zero _
          · rw [e, if_pos rfl, Int32.one_mul, Nat.min_eq_left ((nI_leI (by omega) (by omega)).mp c32)]; exact nI_add _ _
        refine V_rw eS ?_
        refine V_istore_n 52 [(3, .int (nI (gN (aF D) y b (i + 1)))), (4, .int (nI i)), (0, rf G 69), (1, .int y), (2, .int (nI b))] (by decide) rfl rfl dX11_sharedBy_51 rfl ?_
        refine V_iinc 55 1 rfl (nI (i + 1)) [(4, .int (nI (i + 1))), (3, .int (nI (gN (aF D) y b (i + 1)))), (0, rf G 69), (1, .int y), (2, .int (nI b))] (nI_1 _) (by decide) rfl dX11_sharedBy_52 rfl ?_
        refine V_goto 5 rfl dX11_sharedBy_55 ?_
        exact V_lv [0, 1, 2, 3, 4] rfl (ih)
      · refine V_aload_n 36 2 rfl _ rfl rfl dX11_sharedBy_35 rfl ?_
        refine V_getR 39 69 11 40 88 (hRM 40) flX11_71 rfl rfl rfl (by decide) dX11_sharedBy_36 rfl ?_
        refine V_bipush 41 (24) rfl dX11_sharedBy_39 rfl ?_
        refine V_iload 43 0 rfl dX11_sharedBy_41 rfl ?_
        refine V_iadd 44 dX11_sharedBy_43 rfl ?_
        refine V_rw (show _ = nI (24 + i) from nI_add 24 i) ?_
        refine V_ialdN 45 88 51 (24 + i) (nI (aF D i)) ((h88 (24 + i) (by omega)).trans (hA i (by omega)).1) (by omega) (by decide) rfl (by decide) dX11_sharedBy_44 rfl ?_
        refine V_goto 49 rfl dX11_sharedBy_45 ?_
        refine V_imul 50 dX11_sharedBy_49 rfl ?_
        refine V_iadd 51 dX11_sharedBy_50 rfl ?_
        have eS : (nI (gN (aF D) y b i)) + (((y >>> ((nI i) &&& 31)) &&& 1) * (nI (aF D i))) = nI (gN (aF D) y b (i + 1)) := by
          have ha := (hA i (by omega)).2
          rw [gN]
          rcases and01 (y >>> (nI i &&& 31)) with e | e
          · rw [e, if_neg (by decide), Int32.zero_mul, Nat.add_zero]; exact Int32.add_zero _
          · rw [e, if_pos rfl, Int32.one_mul, Nat.min_eq_right (Nat.le_of_lt (Nat.lt_of_not_le (fun q => c32 ((nI_leI (by omega) (by omega)).mpr q))))]; exact nI_add _ _
        refine V_rw eS ?_
        refine V_istore_n 52 [(3, .int (nI (gN (aF D) y b (i + 1)))), (4, .int (nI i)), (0, rf G 69), (1, .int y), (2, .int (nI b))] (by decide) rfl rfl dX11_sharedBy_51 rfl ?_
        refine V_iinc 55 1 rfl (nI (i + 1)) [(4, .int (nI (i + 1))), (3, .int (nI (gN (aF D) y b (i + 1)))), (0, rf G 69), (1, .int y), (2, .int (nI b))] (nI_1 _) (by decide) rfl dX11_sharedBy_52 rfl ?_
        refine V_goto 5 rfl dX11_sharedBy_55 ?_
        exact V_lv [0, 1, 2, 3, 4] rfl (ih)
  show V _ _ _ _ _ _ _ _ [(0, rf G 69), (1, .int y), (2, .int (nI b))] [] _ _ _ _ _
  refine V_iconst 1 (0) rfl dX11_sharedBy_0 rfl ?_
  refine V_istore_n 2 [(3, .int 0), (0, rf G 69), (1, .int y), (2, .int (nI b))] (by decide) rfl rfl dX11_sharedBy_1 rfl ?_
  refine V_iconst 3 (0) rfl dX11_sharedBy_2 rfl ?_
  refine V_istore 5 [(4, .int 0), (3, .int 0), (0, rf G 69), (1, .int y), (2, .int (nI b))] (by decide) rfl dX11_sharedBy_3 rfl ?_
  exact V_lv [0, 1, 2, 3, 4] rfl (L 0 (Nat.zero_le _))
set_option maxHeartbeats 8000000 in
theorem c_X11_share {G : Gx} {d : Nat} {I : FI} {R : FR} {J : FJ} {Q : Po} {K : CO} {f : DV → Int32} {D : DV} (hX : RM I R K f D) {x y z : Int32}  (hq : HoM I R J Q 2 (ckN x (cM K) (ckW y 0 ((1 : Int32) <<< (nI (cM K) &&& 31) - 1) (ckW z 0 9999 (.inl (shF D y z.toNatClampNeg x.toNatClampNeg)))))) : Cc G mX11_share (d + 60) 0 0 [rf G 69, .int x, .int y, .int z] 103 I R J Q := by
  obtain ⟨I0, hI0⟩ : ∃ I0, I0 = up2 I 69 0 0 := ⟨_, rfl⟩
  have hz := FrM.z hI0
  obtain ⟨hRM, hK, hW, hN, hI, hL, hfR⟩ := hX.fr hz
  have ht : I0 69 0 = 0 := hz.2.1
  have h8 := hW.1
  have hg6 := hW.2.1
  have h6 := hW.2.2.1
  have hWD := hI.1
  have hFl := hI.1.1
  have hB := hI.2.2.1
  have hSt := hI.2.1
  show V _ _ _ _ _ _ _ _ [(0, rf G 69), (1, .int x), (2, .int y), (3, .int z)] [] _ _ _ _ _
  refine V_aload_n 1 0 rfl _ rfl rfl dX11_share_0 rfl ?_
  refine V_iconst 2 (0) rfl dX11_share_1 rfl ?_
  refine V_putI 5 69 11 0 flX11_3 rfl rfl rfl (by decide) rfl dX11_share_2 rfl ?_
  rw [← hI0]
  refine V_aload_n 6 0 rfl _ rfl rfl dX11_share_5 rfl ?_
  refine V_iload_n 7 1 rfl rfl dX11_share_6 rfl ?_
  refine V_iconst 8 (1) rfl dX11_share_7 rfl ?_
  refine V_callV (K' := 0) (S' := 0) 11 69 11 2 [.int x, .int 1] mkX11_isMan lkX11_404 (by decide) rfl rfl (by decide) rfl (Nat.le_of_ble_eq_true rfl) (Nat.le_of_ble_eq_true rfl) (Nat.le_of_ble_eq_true rfl) (Nat.le_of_ble_eq_true rfl) rfl rfl dX11_share_8 rfl (c_X11_isMan (c := cM K) (cd := 1) hRM (by omega) hK.2.2.1 (by decide) (by decide) ht (fun i8 => ?_) (fun i8 => ?_))
  · refine Kq_i (k' := 0) (sl' := 0) rfl rfl ?_
    rw [ckN_y (by omega) i8] at hq
    obtain ⟨m, hm, rfl⟩ := i8
    refine V_if_eq 53 14 rfl dX11_share_11 rfl (fun c11 => absurd c11 (by decide)) (fun c11 => ?_)
    by_cases cm : 0 ≤ y ∧ y ≤ (1 : Int32) <<< (nI (cM K) &&& 31) - 1
    · rw [ckW_y cm.1 cm.2] at hq
      refine V_aload_n 15 0 rfl _ rfl rfl dX11_share_14 rfl ?_
      refine V_iload_n 16 2 rfl rfl dX11_share_15 rfl ?_
      refine V_if_lt 44 19 rfl dX11_share_16 rfl (fun c16 => absurd c16 ((msk_iff h6).mp cm).1) (fun c16 => ?_)
      refine V_iload_n 20 2 rfl rfl dX11_share_19 rfl ?_
      refine V_iconst 21 (1) rfl dX11_share_20 rfl ?_
      refine V_aload_n 22 0 rfl _ rfl rfl dX11_share_21 rfl ?_
      refine V_getI 25 69 11 23 (nI (cM K)) hK.2.2.1 flX11_181 rfl rfl rfl (by decide) dX11_share_22 rfl ?_
      refine V_ishl 26 dX11_share_25 rfl ?_
      refine V_icmp_ge 44 29 rfl dX11_share_26 rfl (fun c26 => absurd c26 ((msk_iff h6).mp cm).2) (fun c26 => ?_)
      refine V_iload_n 30 3 rfl rfl dX11_share_29 rfl ?_
      refine V_iconst 31 (0) rfl dX11_share_30 rfl ?_
      refine V_sipush 34 (9999) rfl dX11_share_31 rfl ?_
      refine V_callS (K' := 0) (S' := 0) 37 3 [.int z, .int 0, .int 9999] mkX11_within lkX11_383 rfl (Nat.le_of_ble_eq_true rfl) (Nat.le_of_ble_eq_true rfl) (Nat.le_of_ble_eq_true rfl) (Nat.le_of_ble_eq_true rfl) rfl rfl dX11_share_34 rfl (c_X11_within (fun a34 b34 => ?_) (fun a34 => ?_))
      · refine Kq_i (k' := 0) (sl' := 0) rfl rfl ?_
        rw [ckW_y a34 b34] at hq
        obtain ⟨n, hn, rfl⟩ := in_nI (n := 9999) (by decide) a34 b34
        refine V_if_eq 44 40 rfl dX11_share_37 rfl (fun c37 => absurd c37 (by decide)) (fun c37 => ?_)
        refine V_iconst 41 (1) rfl dX11_share_40 rfl ?_
        refine V_goto 45 rfl dX11_share_41 ?_
        refine V_iconst 46 (2) rfl dX11_share_45 rfl ?_
        refine V_iconst 47 (1) rfl dX11_share_46 rfl ?_
        refine V_callV (K' := 0) (S' := 0) 50 69 11 3 [.int 1, .int 2, .int 1] mkX11_may lkX11_216 (by decide) rfl rfl (by decide) rfl (Nat.le_of_ble_eq_true rfl) (Nat.le_of_ble_eq_true rfl) (Nat.le_of_ble_eq_true rfl) (Nat.le_of_ble_eq_true rfl) rfl rfl dX11_share_47 rfl (c_X11_may (cd := 2) (kd := 1) hRM (by decide) (by decide) (by decide) ht (fun _ => ?_) (fun e => absurd e (by decide)))
        refine Kq_i (k' := 0) (sl' := 0) rfl rfl ?_
        refine V_if_ne 55 53 rfl dX11_share_50 rfl (fun c50 => ?_) (fun c50 => absurd c50 (by decide))
        refine V_iconst 56 (0) rfl dX11_share_55 rfl ?_
        refine V_istore 58 [(4, .int 0), (0, rf G 69), (1, .int (nI m)), (2, .int y), (3, .int (nI n))] (by decide) rfl dX11_share_56 rfl ?_
        refine V_sipush 61 (9999) rfl dX11_share_58 rfl ?_
        refine V_istore 63 [(5, .int 9999), (4, .int 0), (0, rf G 69), (1, .int (nI m)), (2, .int y), (3, .int (nI n))] (by decide) rfl dX11_share_61 rfl ?_
        rw [nI_clamp (show n < 2 ^ 31 by omega), nI_clamp (show m < 2 ^ 31 by omega)] at hq
        have hA := aF_ok hI.2.2.2.2.1
        have g6 : ∀ b, gN (aF D) y b (cM K) = gN (aF D) y b 6 := fun b => by have := gN_to (a := aF D) (s := y) (b := b) (M := cM K) (fun m a b => by unfold aF; rw [(hB m a b).2.2.2]; rfl) (6 - cM K) (by omega); rw [show cM K + (6 - cM K) = 6 by omega] at this; exact this.symm
        have h88z : ∀ k, k < 51 → I0 88 k = D k := fun k hk => by rw [hz.1 88 (by decide) (by decide) (by decide) (by decide) (by decide) (by decide)]; exact hX.2.2.2.1 k hk
        have E : ∀ lo, lo = lvN (fun b => gN (aF D) y b 6) n 14 0 9999 → ∀ hi, lo = hi ∨ hi ≤ lo → lo ≤ 9999 → hi ≤ 9999 → V G mX11_share (d + 60) 0 0 0 0 63 [(4, .int (nI lo)), (5, .int (nI hi)), (0, rf G 69), (1, .int (nI m)), (2, .int y), (3, .int (nI n))] [] 103 I0 R J Q := by
          intro lo eL hi hc hl hh
          refine V_iload 65 0 rfl dX11_share_63 rfl ?_
          refine V_iload 67 1 rfl dX11_share_65 rfl ?_
          refine V_icmp_ge 108 70 rfl dX11_share_67 rfl (fun c67 => ?_) (fun c67 => absurd (nI_le (show hi ≤ lo by omega) (by omega)) c67)
          refine V_iload_n 109 4 rfl rfl dX11_share_108 rfl ?_
          refine V_iload_n 110 3 rfl rfl dX11_share_109 rfl ?_
          refine V_ishr 111 dX11_share_110 rfl ?_
          refine V_iconst 112 (1) rfl dX11_share_111 rfl ?_
          refine V_iand 113 dX11_share_112 rfl ?_
          refine V_if_ne 118 116 rfl dX11_share_113 rfl (fun c113 => ?_) (fun c113 => ?_)
          · refine V_aload_n 119 2 rfl _ rfl rfl dX11_share_118 rfl ?_
            refine V_getR 122 69 11 40 88 (hRM 40) flX11_71 rfl rfl rfl (by decide) dX11_share_119 rfl ?_
            refine V_bipush 124 (24) rfl dX11_share_122 rfl ?_
            refine V_iload_n 125 3 rfl rfl dX11_share_124 rfl ?_
            refine V_iadd 126 dX11_share_125 rfl ?_
            refine V_rw (nI_add 24 m) ?_
            refine V_ialdN 127 88 51 (24 + m) (nI (aF D m)) ((h88z (24 + m) (by omega)).trans (hA m (by omega)).1) (by omega) (by decide) rfl (by decide) dX11_share_126 rfl ?_
            refine V_iload 129 0 rfl dX11_share_127 rfl ?_
            refine V_icmp_ge 144 132 rfl dX11_share_129 rfl (fun c129 => ?_) (fun c129 => ?_)
            · refine V_iload 146 0 rfl dX11_share_144 rfl ?_
              refine V_ret_i rfl rfl (Nat.le_of_ble_eq_true rfl) (fun h => absurd h (by decide)) (Nat.le_of_ble_eq_true rfl) (by have ha := (hA m (by omega)).2; rw [shF, if_neg c113, ← sh_eq (fun b b' h => gN_mono h 6) (Nat.le_trans (gN_le 6) (by omega)) (hA m (by omega)).2, ← eL, Nat.min_eq_right ((nI_leI (by omega) (by omega)).mp c129)] at hq; exact hq I0 hz) dX11_share_146
            · refine V_aload_n 133 2 rfl _ rfl rfl dX11_share_132 rfl ?_
              refine V_getR 136 69 11 40 88 (hRM 40) flX11_71 rfl rfl rfl (by decide) dX11_share_133 rfl ?_
              refine V_bipush 138 (24) rfl dX11_share_136 rfl ?_
              refine V_iload_n 139 3 rfl rfl dX11_share_138 rfl ?_
              refine V_iadd 140 dX11_share_139 rfl ?_
              refine V_rw (nI_add 24 m) ?_
              refine V_ialdN 141 88 51 (24 + m) (nI (aF D m)) ((h88z (24 + m) (by omega)).trans (hA m (by omega)).1) (by omega) (by decide) rfl (by decide) dX11_share_140 rfl ?_
              refine V_goto 146 rfl dX11_share_141 ?_
              refine V_ret_i rfl rfl (Nat.le_of_ble_eq_true rfl) (fun h => absurd h (by decide)) (Nat.le_of_ble_eq_true rfl) (by have ha := (hA m (by omega)).2; rw [shF, if_neg c113, ← sh_eq (fun b b' h => gN_mono h 6) (Nat.le_trans (gN_le 6) (by omega)) (hA m (by omega)).2, ← eL, Nat.min_eq_left (Nat.le_of_lt (Nat.lt_of_not_le (fun q => c129 ((nI_leI (by omega) (by omega)).mpr q))))] at hq; exact hq I0 hz) dX11_share_146
          · refine V_iconst 117 (0) rfl dX11_share_116 rfl ?_
            refine V_ret_i rfl rfl (Nat.le_of_ble_eq_true rfl) (fun h => absurd h (by decide)) (Nat.le_of_ble_eq_true rfl) (by rw [shF, if_pos c113] at hq; exact hq I0 hz) dX11_share_117
        have L : ∀ k lo hi, lo ≤ hi → hi ≤ 9999 → hi - lo < 2 ^ k → (lvN (fun b => gN (aF D) y b 6) n k lo hi = lvN (fun b => gN (aF D) y b 6) n 14 0 9999) → V G mX11_share (d + 60) 0 0 0 0 63 [(4, .int (nI lo)), (5, .int (nI hi)), (0, rf G 69), (1, .int (nI m)), (2, .int y), (3, .int (nI n))] [] 103 I0 R J Q := by
          intro k
          induction k with
          | zero =>
            intro lo hi h1 h2 h3 eL
            have e0 : lo = hi := by have : (2 : Nat) ^ 0 = 1 := rfl; omega
            subst e0
            exact E lo eL lo (Or.inl rfl) h2 h2
          | succ k ih =>
            intro lo hi h1 h2 h3 eL
            have h3 : hi - lo < 2 * 2 ^ k := by rw [Nat.pow_succ] at h3; omega
            have gb := gN_le (a := aF D) (s := y) (b := (lo + hi + 1) / 2) 6
            rw [lvN] at eL
            by_cases cc : hi ≤ lo
            · rw [if_pos cc] at eL
              exact E lo eL hi (Or.inr cc) (by omega) h2
            rw [if_neg cc] at eL
            refine V_iload 65 0 rfl dX11_share_63 rfl ?_
            refine V_iload 67 1 rfl dX11_share_65 rfl ?_
            refine V_icmp_ge 108 70 rfl dX11_share_67 rfl (fun c67 => absurd c67 (nI_ge (show lo < hi by omega) (by omega))) (fun c67 => ?_)
            refine V_iload 72 0 rfl dX11_share_70 rfl ?_
            refine V_iload 74 1 rfl dX11_share_72 rfl ?_
            refine V_iadd 75 dX11_share_74 rfl ?_
            refine V_rw (nI_add lo hi) ?_
            refine V_iconst 76 (1) rfl dX11_share_75 rfl ?_
            refine V_iadd 77 dX11_share_76 rfl ?_
            refine V_rw (nI_add (lo + hi) 1) ?_
            refine V_iconst 78 (2) rfl dX11_share_77 rfl ?_
            refine V_idiv 79 (by decide) dX11_share_78 rfl ?_
            refine V_rw (show _ = nI ((lo + hi + 1) / 2) from by first | exact mid_eq (by omega) | (rw [nI_1]; exact mid_eq (by omega)) | (rw [nI_add, nI_1]; exact mid_eq (by omega))) ?_
            refine V_istore 81 [(6, .int (nI ((lo + hi + 1) / 2))), (4, .int (nI lo)), (5, .int (nI hi)), (0, rf G 69), (1, .int (nI m)), (2, .int y), (3, .int (nI n))] (by decide) rfl dX11_share_79 rfl ?_
            refine V_aload_n 82 3 rfl _ rfl rfl dX11_share_81 rfl ?_
            refine V_iload_n 83 5 rfl rfl dX11_share_82 rfl ?_
            refine V_iload 85 0 rfl dX11_share_83 rfl ?_
            refine V_callV (K' := 0) (S' := 0) 88 69 11 2 [.int y, .int (nI ((lo + hi + 1) / 2))] mkX11_sharedBy lkX11_439 (by decide) rfl rfl (by decide) rfl (Nat.le_of_ble_eq_true rfl) (Nat.le_of_ble_eq_true rfl) (Nat.le_of_ble_eq_true rfl) (Nat.le_of_ble_eq_true rfl) rfl rfl dX11_share_85 rfl (c_X11_sharedBy hRM hK h6 h88z hI.2.2.2.2.1 (b := (lo + hi + 1) / 2) (by omega) ?_)
            rw [g6]
            refine Kq_i (k' := 0) (sl' := 0) rfl rfl ?_
            refine V_iload_n 89 6 rfl rfl dX11_share_88 rfl ?_
            refine V_icmp_gt 99 92 rfl dX11_share_89 rfl (fun c89 => ?_) (fun c89 => ?_)
            · refine V_iload 101 0 rfl dX11_share_99 rfl ?_
              refine V_iconst 102 (1) rfl dX11_share_101 rfl ?_
              refine V_isub 103 dX11_share_102 rfl ?_
              refine V_rw (show _ = nI ((lo + hi + 1) / 2 - 1) from nI_sub (b := 1) (by omega)) ?_
              refine V_istore 105 [(5, .int (nI ((lo + hi + 1) / 2 - 1))), (6, .int (nI ((lo + hi + 1) / 2))), (4, .int (nI lo)), (0, rf G 69), (1, .int (nI m)), (2, .int y), (3, .int (nI n))] (by decide) rfl dX11_share_103 rfl ?_
              refine V_goto 63 rfl dX11_share_105 ?_
              rw [if_pos ((nI_ltI (by omega) (by omega)).mp c89)] at eL
              exact V_lv [2, 0, 3, 4, 5, 6] rfl (ih _ _ (by omega) (by omega) (by omega) eL)
            · refine V_iload 94 0 rfl dX11_share_92 rfl ?_
              refine V_istore 96 [(4, .int (nI ((lo + hi + 1) / 2))), (6, .int (nI ((lo + hi + 1) / 2))), (5, .int (nI hi)), (0, rf G 69), (1, .int (nI m)), (2, .int y), (3, .int (nI n))] (by decide) rfl dX11_share_94 rfl ?_
              refine V_goto 105 rfl dX11_share_96 ?_
              refine V_goto 63 rfl dX11_share_105 ?_
              rw [if_neg (fun q => c89 ((nI_ltI (by omega) (by omega)).mpr q))] at eL
              exact V_lv [0, 2, 3, 4, 5, 6] rfl (ih _ _ (by omega) (by omega) (by omega) eL)
        exact V_lv [1, 0, 2, 3, 4, 5] rfl (L 14 0 9999 (by decide) (by decide) (by decide) rfl)
      · refine Kq_i (k' := 0) (sl' := 0) rfl rfl ?_
        rw [ckW_n a34] at hq
        refine V_if_eq 44 40 rfl dX11_share_37 rfl (fun c37 => ?_) (fun c37 => absurd c37 (by decide))
        refine V_iconst 45 (0) rfl dX11_share_44 rfl ?_
        refine V_iconst 46 (2) rfl dX11_share_45 rfl ?_
        refine V_iconst 47 (1) rfl dX11_share_46 rfl ?_
        refine V_callV (K' := 0) (S' := 0) 50 69 11 3 [.int 0, .int 2, .int 1] mkX11_may lkX11_216 (by decide) rfl rfl (by decide) rfl (Nat.le_of_ble_eq_true rfl) (Nat.le_of_ble_eq_true rfl) (Nat.le_of_ble_eq_true rfl) (Nat.le_of_ble_eq_true rfl) rfl rfl dX11_share_47 rfl (c_X11_may (cd := 2) (kd := 1) hRM (by decide) (by decide) (by decide) ht (fun e => absurd rfl e) (fun _ => ?_))
        refine Kq_i (k' := 0) (sl' := 0) rfl rfl ?_
        refine V_if_ne 55 53 rfl dX11_share_50 rfl (fun c50 => absurd c50 (by decide)) (fun c50 => ?_)
        refine V_iconst 54 (0) rfl dX11_share_53 rfl ?_
        refine V_ret_i rfl rfl (Nat.le_of_ble_eq_true rfl) (fun h => absurd h (by decide)) (Nat.le_of_ble_eq_true rfl) (hq.x hI0 rfl) dX11_share_54
    · rw [ckW_n cm] at hq
      refine V_aload_n 15 0 rfl _ rfl rfl dX11_share_14 rfl ?_
      refine V_iload_n 16 2 rfl rfl dX11_share_15 rfl ?_
      refine V_if_lt 44 19 rfl dX11_share_16 rfl (fun c16 => ?_) (fun c16 => ?_)
      · refine V_iconst 45 (0) rfl dX11_share_44 rfl ?_
        refine V_iconst 46 (2) rfl dX11_share_45 rfl ?_
        refine V_iconst 47 (1) rfl dX11_share_46 rfl ?_
        refine V_callV (K' := 0) (S' := 0) 50 69 11 3 [.int 0, .int 2, .int 1] mkX11_may lkX11_216 (by decide) rfl rfl (by decide) rfl (Nat.le_of_ble_eq_true rfl) (Nat.le_of_ble_eq_true rfl) (Nat.le_of_ble_eq_true rfl) (Nat.le_of_ble_eq_true rfl) rfl rfl dX11_share_47 rfl (c_X11_may (cd := 2) (kd := 1) hRM (by decide) (by decide) (by decide) ht (fun e => absurd rfl e) (fun _ => ?_))
        refine Kq_i (k' := 0) (sl' := 0) rfl rfl ?_
        refine V_if_ne 55 53 rfl dX11_share_50 rfl (fun c50 => absurd c50 (by decide)) (fun c50 => ?_)
        refine V_iconst 54 (0) rfl dX11_share_53 rfl ?_
        refine V_ret_i rfl rfl (Nat.le_of_ble_eq_true rfl) (fun h => absurd h (by decide)) (Nat.le_of_ble_eq_true rfl) (hq.x hI0 rfl) dX11_share_54
      · refine V_iload_n 20 2 rfl rfl dX11_share_19 rfl ?_
        refine V_iconst 21 (1) rfl dX11_share_20 rfl ?_
        refine V_aload_n 22 0 rfl _ rfl rfl dX11_share_21 rfl ?_
        refine V_getI 25 69 11 23 (nI (cM K)) hK.2.2.1 flX11_181 rfl rfl rfl (by decide) dX11_share_22 rfl ?_
        refine V_ishl 26 dX11_share_25 rfl ?_
        refine V_icmp_ge 44 29 rfl dX11_share_26 rfl (fun c26 => ?_) (fun c26 => absurd ((msk_iff h6).mpr ⟨c16, c26⟩) cm)
        refine V_iconst 45 (0) rfl dX11_share_44 rfl ?_
        refine V_iconst 46 (2) rfl dX11_share_45 rfl ?_
        refine V_iconst 47 (1) rfl dX11_share_46 rfl ?_
        refine V_callV (K' := 0) (S' := 0) 50 69 11 3 [.int 0, .int 2, .int 1] mkX11_may lkX11_216 (by decide) rfl rfl (by decide) rfl (Nat.le_of_ble_eq_true rfl) (Nat.le_of_ble_eq_true rfl) (Nat.le_of_ble_eq_true rfl) (Nat.le_of_ble_eq_true rfl) rfl rfl dX11_share_47 rfl (c_X11_may (cd := 2) (kd := 1) hRM (by decide) (by decide) (by decide) ht (fun e => absurd rfl e) (fun _ => ?_))
        refine Kq_i (k' := 0) (sl' := 0) rfl rfl ?_
        refine V_if_ne 55 53 rfl dX11_share_50 rfl (fun c50 => absurd c50 (by decide)) (fun c50 => ?_)
        refine V_iconst 54 (0) rfl dX11_share_53 rfl ?_
        refine V_ret_i rfl rfl (Nat.le_of_ble_eq_true rfl) (fun h => absurd h (by decide)) (Nat.le_of_ble_eq_true rfl) (hq.x hI0 rfl) dX11_share_54
  · refine Kq_i (k' := 0) (sl' := 0) rfl rfl ?_
    rw [ckN_n (by omega) i8] at hq
    refine V_if_eq 53 14 rfl dX11_share_11 rfl (fun c11 => ?_) (fun c11 => absurd c11 (by decide))
    refine V_iconst 54 (0) rfl dX11_share_53 rfl ?_
    refine V_ret_i rfl rfl (Nat.le_of_ble_eq_true rfl) (fun h => absurd h (by decide)) (Nat.le_of_ble_eq_true rfl) (hq.x hI0 rfl) dX11_share_54
