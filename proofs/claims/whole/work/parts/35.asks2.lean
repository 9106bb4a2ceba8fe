/-! ===== the class: season, span, line, meets, from, row, best, two ===== -/
theorem pigeon : ∀ (n : Nat) (g : Nat → Nat), (∀ k, k ≤ n → g k < n) → ∃ i j, i < j ∧ j ≤ n ∧ g i = g j := by
  intro n
  induction n with
  | zero => intro g h; exact absurd (h 0 (Nat.le_refl _)) (Nat.not_lt_zero _)
  | succ n ih =>
    intro g h
    by_cases c : ∃ i, i ≤ n ∧ g i = g (n + 1)
    · obtain ⟨i, h1, h2⟩ := c
      exact ⟨i, n + 1, by omega, Nat.le_refl _, h2⟩
    · obtain ⟨i, j, h1, h2, h3⟩ := ih (fun k => if g (n + 1) < g k then g k - 1 else g k) (fun k hk => by
        have a := h k (by omega)
        have b := h (n + 1) (Nat.le_refl _)
        have e : g k ≠ g (n + 1) := fun e => c ⟨k, hk, e⟩
        show (if g (n + 1) < g k then g k - 1 else g k) < n
        split <;> omega)
      have a : g i ≠ g (n + 1) := fun e => c ⟨i, by omega, e⟩
      have b : g j ≠ g (n + 1) := fun e => c ⟨j, by omega, e⟩
      refine ⟨i, j, h1, by omega, ?_⟩
      have h4 : (if g (n + 1) < g i then g i - 1 else g i) = (if g (n + 1) < g j then g j - 1 else g j) := h3
      split at h4 <;> split at h4 <;> omega
theorem itN_add (hr : Nat → Option Nat) (m a : Nat) : ∀ b, itN hr (a + b) m = (itN hr a m).bind (itN hr b) := by
  intro b
  induction b with
  | zero => cases h : itN hr a m <;> simp [h, itN]
  | succ b ih =>
    show (itN hr (a + b) m).bind hr = _
    rw [ih]
    cases itN hr a m <;> rfl
theorem it_per {hr : Nat → Option Nat} {M m : Nat} (h6 : M ≤ 6) (hM : ∀ a j, hr a = some j → j < M) (hm : m < M) : ∀ n, 6 ≤ n → itN hr (n + 60) m = itN hr n m := by
  by_cases c : ∃ k, k ≤ 6 ∧ itN hr k m = none
  · obtain ⟨k, h1, h2⟩ := c
    intro n hn
    rw [itN_no h2 _ (by omega), itN_no h2 _ (by omega)]
  · have g : ∀ k, k ≤ 6 → ∃ j, itN hr k m = some j := fun k hk => by
      cases e : itN hr k m with
      | none => exact absurd ⟨k, hk, e⟩ c
      | some j => exact ⟨j, rfl⟩
    obtain ⟨i, j, h1, h2, h3⟩ := pigeon 6 (fun k => (itN hr k m).getD 0) (fun k hk => by
      obtain ⟨j, e⟩ := g k hk
      show (itN hr k m).getD 0 < 6
      rw [e]
      have := itN_lt hM hm k j e
      show j < 6
      omega)
    obtain ⟨x, ex⟩ := g i (by omega)
    obtain ⟨y, ey⟩ := g j h2
    have exy : x = y := by
      have h4 : (itN hr i m).getD 0 = (itN hr j m).getD 0 := h3
      rw [ex, ey] at h4
      exact h4
    subst exy
    have P : ∀ n, i ≤ n → itN hr (n + (j - i)) m = itN hr n m := fun n hn => by
      rw [show n + (j - i) = j + (n - i) by omega, itN_add, ey, show n = i + (n - i) by omega, itN_add hr m i, ex]
      rw [show i + (n - i) - i = n - i by omega]
    have P2 : ∀ q n, i ≤ n → itN hr (n + q * (j - i)) m = itN hr n m := by
      intro q
      induction q with
      | zero => intro n hn; rw [Nat.zero_mul, Nat.add_zero]
      | succ q ih =>
        intro n hn
        rw [Nat.succ_mul, ← Nat.add_assoc, P _ (by omega)]
        exact ih n hn
    intro n hn
    rcases (show j - i = 1 ∨ j - i = 2 ∨ j - i = 3 ∨ j - i = 4 ∨ j - i = 5 ∨ j - i = 6 by omega) with e | e | e | e | e | e <;> rw [e] at P2
    · exact P2 60 n (by omega)
    · exact P2 30 n (by omega)
    · exact P2 20 n (by omega)
    · exact P2 15 n (by omega)
    · exact P2 12 n (by omega)
    · exact P2 10 n (by omega)
theorem it_hs {hr : Nat → Option Nat} {M m : Nat} (h6 : M ≤ 6) (hM : ∀ a j, hr a = some j → j < M) (hm : m < M) (n : Nat) : itN hr (hsF n) m = itN hr n m := by
  have P := it_per h6 hM hm
  have P2 : ∀ q r, 6 ≤ r → itN hr (r + q * 60) m = itN hr r m := by
    intro q
    induction q with
    | zero => intro r hr'; rw [Nat.zero_mul, Nat.add_zero]
    | succ q ih =>
      intro r hr'
      rw [Nat.succ_mul, ← Nat.add_assoc, P _ (by omega)]
      exact ih r hr'
  unfold hsF
  split
  · rfl
  · have e := P2 ((n - 6) / 60) (6 + (n - 6) % 60) (by omega)
    rw [← e]
    congr 1
    omega
/-- MEETS: who, by how many steps -/
def mtF (hr : Nat → Option Nat) (m o : Nat) : Nat → Int32 × Int32
  | 0 => (-1, -1)
  | k + 1 => if stF hr k 6 0 (some m) = -1 ∨ stF hr k 6 0 (some o) = -1 ∨ (¬ (mtF hr m o k).1 = -1 ∧ (mtF hr m o k).2 ≤ stF hr k 6 0 (some m) + stF hr k 6 0 (some o)) then mtF hr m o k else (nI k, stF hr k 6 0 (some m) + stF hr k 6 0 (some o))
theorem mtF_is (hr : Nat → Option Nat) (m o : Nat) : ∀ n, ((mtF hr m o n).1 = -1 ∧ (mtF hr m o n).2 = -1) ∨ ∃ k, k < n ∧ (mtF hr m o n).1 = nI k ∧ (mtF hr m o n).2 = stF hr k 6 0 (some m) + stF hr k 6 0 (some o) := by
  intro n
  induction n with
  | zero => exact Or.inl ⟨rfl, rfl⟩
  | succ n ih =>
    rw [mtF]
    split
    · rcases ih with h | ⟨k, h1, h2⟩
      · exact Or.inl h
      · exact Or.inr ⟨k, by omega, h2⟩
    · exact Or.inr ⟨n, by omega, rfl, rfl⟩
theorem stF_le (hr : Nat → Option Nat) (e : Nat) : ∀ f k x, stF hr e f k x = -1 ∨ ∃ j, j < k + f ∧ stF hr e f k x = nI j := by
  intro f
  induction f with
  | zero => intro k x; exact Or.inl rfl
  | succ f ih =>
    intro k x
    cases x with
    | none => exact Or.inl rfl
    | some a =>
      show (if a = e then nI k else stF hr e f (k + 1) (hr a)) = -1 ∨ ∃ j, j < k + (f + 1) ∧ (if a = e then nI k else stF hr e f (k + 1) (hr a)) = nI j
      split
      · exact Or.inr ⟨k, by omega, rfl⟩
      · rcases ih (k + 1) (hr a) with h | ⟨j, h1, h2⟩
        · exact Or.inl h
        · exact Or.inr ⟨j, by omega, h2⟩
def mtC (p : Int32 × Int32) : Int32 := if p.1 = -1 then 2147483647 else p.2
theorem mtF_go {hr : Nat → Option Nat} {m o k : Nat} (h1 : ¬ stF hr k 6 0 (some m) = -1) (h2 : ¬ stF hr k 6 0 (some o) = -1) (h3 : stF hr k 6 0 (some m) + stF hr k 6 0 (some o) < mtC (mtF hr m o k)) : mtF hr m o (k + 1) = (nI k, stF hr k 6 0 (some m) + stF hr k 6 0 (some o)) := by
  rw [mtF]
  refine if_neg (fun h => ?_)
  rcases h with h | h | ⟨h, h4⟩
  · exact h1 h
  · exact h2 h
  · unfold mtC at h3
    rw [if_neg h] at h3
    exact absurd h3 (Int32.not_lt.mpr h4)
theorem mtF_no {hr : Nat → Option Nat} {m o k : Nat} (h : stF hr k 6 0 (some m) = -1 ∨ stF hr k 6 0 (some o) = -1 ∨ ¬ stF hr k 6 0 (some m) + stF hr k 6 0 (some o) < mtC (mtF hr m o k)) : mtF hr m o (k + 1) = mtF hr m o k := by
  rw [mtF]
  refine if_pos ?_
  rcases h with h | h | h
  · exact Or.inl h
  · exact Or.inr (Or.inl h)
  · by_cases a : stF hr k 6 0 (some m) = -1
    · exact Or.inl a
    · by_cases b : stF hr k 6 0 (some o) = -1
      · exact Or.inr (Or.inl b)
      · refine Or.inr (Or.inr ?_)
        unfold mtC at h
        by_cases c : (mtF hr m o k).1 = -1
        · exfalso
          rw [if_pos c] at h
          rcases stF_le hr k 6 0 (some m) with q | ⟨i, hi, ei⟩
          · exact a q
          · rcases stF_le hr k 6 0 (some o) with q | ⟨j, hj, ej⟩
            · exact b q
            · rw [ei, ej, nI_add] at h
              exact h (nI_lt (b := 2147483647) (by omega) (by decide))
        · rw [if_neg c] at h
          exact ⟨c, Int32.not_lt.mp h⟩
theorem mtC_go {k : Nat} {v : Int32} (hk : k < 2 ^ 31) : mtC (nI k, v) = v := if_neg (nI_ne hk)
/-- the longest row of heirs: fuel, seen, now, steps -/
def rwF (hr : Nat → Option Nat) : Nat → Int32 → Option Nat → Nat → Int32
  | 0, _, _, n => nI n
  | f + 1, s, x, n => match x with
    | none => nI n
    | some a => if (s >>> (nI a &&& 31)) &&& 1 = 0 then rwF hr f (s ||| ((1 : Int32) <<< (nI a &&& 31))) (hr a) (n + 1) else nI n
def beO (p : Int32 × Int32) (j : Nat) : Int32 := if j = 0 then p.1 else p.2
theorem bstF_is (D : DV) : ∀ n, ((bstF D n).1 = -1 ∧ (bstF D n).2 = 0) ∨ ∃ m, m < n ∧ (bstF D n).1 = nI m ∧ (bstF D n).2 = D (24 + m) ∧ 0 < D (24 + m) := by
  intro n
  induction n with
  | zero => exact Or.inl ⟨rfl, rfl⟩
  | succ n ih =>
    rw [bstF]
    split
    · rename_i c
      refine Or.inr ⟨n, by omega, rfl, rfl, ?_⟩
      rcases ih with ⟨h1, h2⟩ | ⟨m, h1, h2, h3, h4⟩
      · rw [h2] at c; exact c
      · rw [h3] at c; exact Int32.lt_trans h4 c
    · rcases ih with h | ⟨m, h1, h2⟩
      · exact Or.inl h
      · exact Or.inr ⟨m, by omega, h2⟩
def beF (p : Int32 × Int32) (j : Nat) : Int32 := if j = 0 ∨ p.1 = -1 then p.1 else p.2
def twF (v : Int32) (j : Nat) : Int32 := match j with
  | 0 => if v = 0 then 4 else 2
  | 1 => 0
  | _ => v + v
set_option maxHeartbeats 8000000 in
theorem c_X10_season {G : Gx} {d : Nat} {I : FI} {R : FR} {J : FJ} {Q : Po} {c l b : Nat} {K : CO} {f : DV → Int32} {D : DV} (hX : RC I R c l b K f D) {x1 x2 x3 x4 : Int32}  (hq : Ho I R J Q (ckW x2 0 16 (ckW x3 1 96 (ckW x4 0 3 (.inl (outF (seS K f x2 D x1 x3.toNatClampNeg).1 x4.toNatClampNeg)))))) : Cc G mX10_season (d + 60) 8 48 [rf G 0, .int x1, .int x2, .int x3, .int x4] 103 I R J Q := by
  obtain ⟨hRS, hc, hl, hb, hC, hW, hD, hI, hL⟩ := hX
  have hRK := hRS.K
  have hR3c : R 3 0 = some c := hRS 3 0 (by decide)
  have hR3l : R 3 1 = some l := hRS 3 1 (by decide)
  have hR32 : R 3 2 = some 16 := hRS 3 2 (by decide)
  have hR33 : R 3 3 = some 17 := hRS 3 3 (by decide)
  have h8 := hW.1
  have hg6 := hW.2.1
  have h6 := hW.2.2.1
  have hWD := hI.1
  have hFl := hI.1.1
  show V _ _ _ _ _ _ _ _ [(0, rf G 0), (1, .int x1), (2, .int x2), (3, .int x3), (4, .int x4)] [] _ _ _ _ _
  refine V_aload_n 1 0 rfl _ rfl rfl dX10_season_0 rfl ?_
  refine V_iload_n 2 2 rfl rfl dX10_season_1 rfl ?_
  refine V_iconst 3 (0) rfl dX10_season_2 rfl ?_
  refine V_bipush 5 (16) rfl dX10_season_3 rfl ?_
  refine V_callV (K' := 1) (S' := 6) 8 0 10 3 [.int x2, .int 0, .int 16] mkX10_needWithin lkX10_158 (by decide) rfl rfl (by decide) rfl (Nat.le_of_ble_eq_true rfl) (Nat.le_of_ble_eq_true rfl) (Nat.le_of_ble_eq_true rfl) (Nat.le_of_ble_eq_true rfl) rfl rfl dX10_season_5 rfl (c_X10_needWithin (fun a5 b5 => ?_) (fun a5 => by rw [ckW_n a5] at hq; exact hq _ rfl))
  refine Kq_v (k' := 1) (sl' := 6) rfl rfl ?_
  rw [ckW_y a5 b5] at hq
  refine V_aload_n 9 0 rfl _ rfl rfl dX10_season_8 rfl ?_
  refine V_iload_n 10 3 rfl rfl dX10_season_9 rfl ?_
  refine V_iconst 11 (1) rfl dX10_season_10 rfl ?_
  refine V_bipush 13 (96) rfl dX10_season_11 rfl ?_
  refine V_callV (K' := 1) (S' := 6) 16 0 10 3 [.int x3, .int 1, .int 96] mkX10_needWithin lkX10_158 (by decide) rfl rfl (by decide) rfl (Nat.le_of_ble_eq_true rfl) (Nat.le_of_ble_eq_true rfl) (Nat.le_of_ble_eq_true rfl) (Nat.le_of_ble_eq_true rfl) rfl rfl dX10_season_13 rfl (c_X10_needWithin (fun a13 b13 => ?_) (fun a13 => by rw [ckW_n a13] at hq; exact hq _ rfl))
  refine Kq_v (k' := 2) (sl' := 12) rfl rfl ?_
  rw [ckW_y a13 b13] at hq
  obtain ⟨n, hn, rfl⟩ := in_nI (n := 96) (by decide) (Int32.le_trans (by decide) a13) b13
  refine V_aload_n 17 0 rfl _ rfl rfl dX10_season_16 rfl ?_
  refine V_iload 19 4 rfl dX10_season_17 rfl ?_
  refine V_iconst 20 (0) rfl dX10_season_19 rfl ?_
  refine V_iconst 21 (3) rfl dX10_season_20 rfl ?_
  refine V_callV (K' := 1) (S' := 6) 24 0 10 3 [.int x4, .int 0, .int 3] mkX10_needWithin lkX10_158 (by decide) rfl rfl (by decide) rfl (Nat.le_of_ble_eq_true rfl) (Nat.le_of_ble_eq_true rfl) (Nat.le_of_ble_eq_true rfl) (Nat.le_of_ble_eq_true rfl) rfl rfl dX10_season_21 rfl (c_X10_needWithin (fun a21 b21 => ?_) (fun a21 => by rw [ckW_n a21] at hq; exact hq _ rfl))
  refine Kq_v (k' := 3) (sl' := 18) rfl rfl ?_
  rw [ckW_y a21 b21] at hq
  obtain ⟨j, hj, rfl⟩ := in_nI (n := 3) (by decide) a21 b21
  refine V_aload_n 25 0 rfl _ rfl rfl dX10_season_24 rfl ?_
  refine V_getR 28 0 10 3 26 (hRS 0 3 (by decide)) flX10_30 rfl rfl rfl (by decide) dX10_season_25 rfl ?_
  refine V_aload_n 29 0 rfl _ rfl rfl dX10_season_28 rfl ?_
  refine V_getR 32 0 10 2 18 (hRS 0 2 (by decide)) flX10_26 rfl rfl rfl (by decide) dX10_season_29 rfl ?_
  rw [nI_clamp (show n < 2 ^ 31 by omega), nI_clamp (show j < 2 ^ 31 by omega)] at hq
  refine V_callV (K' := 0) (S' := 0) 35 26 3 1 [rf G 18] mkX3_become lkX10_252 (by decide) rfl rfl (by decide) rfl (Nat.le_of_ble_eq_true rfl) (Nat.le_of_ble_eq_true rfl) (Nat.le_of_ble_eq_true rfl) (Nat.le_of_ble_eq_true rfl) rfl rfl dX10_season_32 rfl (c_X3_become hRK hD (fun I1 hDg hF1 => ?_))
  refine Kq_v (k' := 3) (sl' := 18) rfl rfl ?_
  have hz1 := FrQ.C hF1
  refine V_aload_n 36 0 rfl _ rfl rfl dX10_season_35 rfl ?_
  refine V_getR 39 0 10 7 50 (hRS 0 7 (by decide)) flX10_57 rfl rfl rfl (by decide) dX10_season_36 rfl ?_
  refine V_aload_n 40 0 rfl _ rfl rfl dX10_season_39 rfl ?_
  refine V_getR 43 0 10 1 3 (hRS 0 1 (by decide)) flX10_19 rfl rfl rfl (by decide) dX10_season_40 rfl ?_
  refine V_aload_n 44 0 rfl _ rfl rfl dX10_season_43 rfl ?_
  refine V_getR 47 0 10 3 26 (hRS 0 3 (by decide)) flX10_30 rfl rfl rfl (by decide) dX10_season_44 rfl ?_
  refine V_iload_n 48 1 rfl rfl dX10_season_47 rfl ?_
  refine V_iload_n 49 2 rfl rfl dX10_season_48 rfl ?_
  refine V_iload_n 50 3 rfl rfl dX10_season_49 rfl ?_
  refine V_callV (K' := 0) (S' := 0) 53 50 6 5 [rf G 3, rf G 26, .int x1, .int x2, .int (nI n)] mkX6_pass lkX10_340 (by decide) rfl rfl (by decide) rfl (Nat.le_of_ble_eq_true rfl) (Nat.le_of_ble_eq_true rfl) (Nat.le_of_ble_eq_true rfl) (Nat.le_of_ble_eq_true rfl) rfl rfl dX10_season_50 rfl (c_X6_pass (RC.fr ⟨hRS, hc, hl, hb, hC, hW, hD, hI, hL⟩ hz1) hDg hI (by omega) (fun I2 hD2 hz2 => ?_))
  refine Kq_v (k' := 3) (sl' := 18) rfl rfl ?_
  refine V_aload_n 54 0 rfl _ rfl rfl dX10_season_53 rfl ?_
  refine V_iload 56 4 rfl dX10_season_54 rfl ?_
  refine V_callV (K' := 0) (S' := 0) 59 0 10 1 [.int (nI j)] mkX10_outcome lkX10_258 (by decide) rfl rfl (by decide) rfl (Nat.le_of_ble_eq_true rfl) (Nat.le_of_ble_eq_true rfl) (Nat.le_of_ble_eq_true rfl) (Nat.le_of_ble_eq_true rfl) rfl rfl dX10_season_56 rfl (c_X10_outcome hRS (by omega) hD2 ?_)
  refine Kq_i (k' := 3) (sl' := 18) rfl rfl ?_
  refine V_ret_i rfl rfl (Nat.le_of_ble_eq_true rfl) (fun h => absurd h (by decide)) (Nat.le_of_ble_eq_true rfl) (hq I2 (hz1.tr hz2)) dX10_season_59
set_option maxHeartbeats 8000000 in
theorem c_X10_span {G : Gx} {d : Nat} {I : FI} {R : FR} {J : FJ} {Q : Po} {c l b : Nat} {K : CO} {f : DV → Int32} {D : DV} (hX : RC I R c l b K f D) {x1 x2 x3 x4 x5 : Int32}  (hq : Ho I R J Q (ckW x2 1 20 (ckW x3 0 16 (ckW x4 1 96 (ckW x5 0 2 (.inl (spO (spF K f x3 D x1 x4.toNatClampNeg x2.toNatClampNeg) x5.toNatClampNeg))))))) : Cc G mX10_span (d + 60) 8 48 [rf G 0, .int x1, .int x2, .int x3, .int x4, .int x5] 103 I R J Q := by
  obtain ⟨hRS, hc, hl, hb, hC, hW, hD, hI, hL⟩ := hX
  have hRK := hRS.K
  have hR3c : R 3 0 = some c := hRS 3 0 (by decide)
  have hR3l : R 3 1 = some l := hRS 3 1 (by decide)
  have hR32 : R 3 2 = some 16 := hRS 3 2 (by decide)
  have hR33 : R 3 3 = some 17 := hRS 3 3 (by decide)
  have h8 := hW.1
  have hg6 := hW.2.1
  have h6 := hW.2.2.1
  have hWD := hI.1
  have hFl := hI.1.1
  show V _ _ _ _ _ _ _ _ [(0, rf G 0), (1, .int x1), (2, .int x2), (3, .int x3), (4, .int x4), (5, .int x5)] [] _ _ _ _ _
  refine V_aload_n 1 0 rfl _ rfl rfl dX10_span_0 rfl ?_
  refine V_iload_n 2 2 rfl rfl dX10_span_1 rfl ?_
  refine V_iconst 3 (1) rfl dX10_span_2 rfl ?_
  refine V_bipush 5 (20) rfl dX10_span_3 rfl ?_
  refine V_callV (K' := 1) (S' := 6) 8 0 10 3 [.int x2, .int 1, .int 20] mkX10_needWithin lkX10_158 (by decide) rfl rfl (by decide) rfl (Nat.le_of_ble_eq_true rfl) (Nat.le_of_ble_eq_true rfl) (Nat.le_of_ble_eq_true rfl) (Nat.le_of_ble_eq_true rfl) rfl rfl dX10_span_5 rfl (c_X10_needWithin (fun a5 b5 => ?_) (fun a5 => by rw [ckW_n a5] at hq; exact hq _ rfl))
  refine Kq_v (k' := 1) (sl' := 6) rfl rfl ?_
  rw [ckW_y a5 b5] at hq
  obtain ⟨y, hy, rfl⟩ := in_nI (n := 20) (by decide) (Int32.le_trans (by decide) a5) b5
  refine V_aload_n 9 0 rfl _ rfl rfl dX10_span_8 rfl ?_
  refine V_iload_n 10 3 rfl rfl dX10_span_9 rfl ?_
  refine V_iconst 11 (0) rfl dX10_span_10 rfl ?_
  refine V_bipush 13 (16) rfl dX10_span_11 rfl ?_
  refine V_callV (K' := 1) (S' := 6) 16 0 10 3 [.int x3, .int 0, .int 16] mkX10_needWithin lkX10_158 (by decide) rfl rfl (by decide) rfl (Nat.le_of_ble_eq_true rfl) (Nat.le_of_ble_eq_true rfl) (Nat.le_of_ble_eq_true rfl) (Nat.le_of_ble_eq_true rfl) rfl rfl dX10_span_13 rfl (c_X10_needWithin (fun a13 b13 => ?_) (fun a13 => by rw [ckW_n a13] at hq; exact hq _ rfl))
  refine Kq_v (k' := 2) (sl' := 12) rfl rfl ?_
  rw [ckW_y a13 b13] at hq
  refine V_aload_n 17 0 rfl _ rfl rfl dX10_span_16 rfl ?_
  refine V_iload 19 4 rfl dX10_span_17 rfl ?_
  refine V_iconst 20 (1) rfl dX10_span_19 rfl ?_
  refine V_bipush 22 (96) rfl dX10_span_20 rfl ?_
  refine V_callV (K' := 1) (S' := 6) 25 0 10 3 [.int x4, .int 1, .int 96] mkX10_needWithin lkX10_158 (by decide) rfl rfl (by decide) rfl (Nat.le_of_ble_eq_true rfl) (Nat.le_of_ble_eq_true rfl) (Nat.le_of_ble_eq_true rfl) (Nat.le_of_ble_eq_true rfl) rfl rfl dX10_span_22 rfl (c_X10_needWithin (fun a22 b22 => ?_) (fun a22 => by rw [ckW_n a22] at hq; exact hq _ rfl))
  refine Kq_v (k' := 3) (sl' := 18) rfl rfl ?_
  rw [ckW_y a22 b22] at hq
  obtain ⟨n, hn, rfl⟩ := in_nI (n := 96) (by decide) (Int32.le_trans (by decide) a22) b22
  refine V_aload_n 26 0 rfl _ rfl rfl dX10_span_25 rfl ?_
  refine V_iload 28 5 rfl dX10_span_26 rfl ?_
  refine V_iconst 29 (0) rfl dX10_span_28 rfl ?_
  refine V_iconst 30 (2) rfl dX10_span_29 rfl ?_
  refine V_callV (K' := 1) (S' := 6) 33 0 10 3 [.int x5, .int 0, .int 2] mkX10_needWithin lkX10_158 (by decide) rfl rfl (by decide) rfl (Nat.le_of_ble_eq_true rfl) (Nat.le_of_ble_eq_true rfl) (Nat.le_of_ble_eq_true rfl) (Nat.le_of_ble_eq_true rfl) rfl rfl dX10_span_30 rfl (c_X10_needWithin (fun a30 b30 => ?_) (fun a30 => by rw [ckW_n a30] at hq; exact hq _ rfl))
  refine Kq_v (k' := 4) (sl' := 24) rfl rfl ?_
  rw [ckW_y a30 b30] at hq
  obtain ⟨j, hj, rfl⟩ := in_nI (n := 2) (by decide) a30 b30
  refine V_ldcw 36 (2147483647) rfl ckX10_343 dX10_span_33 rfl ?_
  refine V_istore 38 [(6, .int 2147483647), (0, rf G 0), (1, .int x1), (2, .int (nI y)), (3, .int x3), (4, .int (nI n)), (5, .int (nI j))] (by decide) rfl dX10_span_36 rfl ?_
  refine V_iconst 39 (0) rfl dX10_span_38 rfl ?_
  refine V_istore 41 [(7, .int 0), (6, .int 2147483647), (0, rf G 0), (1, .int x1), (2, .int (nI y)), (3, .int x3), (4, .int (nI n)), (5, .int (nI j))] (by decide) rfl dX10_span_39 rfl ?_
  refine V_iconst 42 (0) rfl dX10_span_41 rfl ?_
  refine V_istore 44 [(8, .int 0), (7, .int 0), (6, .int 2147483647), (0, rf G 0), (1, .int x1), (2, .int (nI y)), (3, .int x3), (4, .int (nI n)), (5, .int (nI j))] (by decide) rfl dX10_span_42 rfl ?_
  refine V_iconst 45 (0) rfl dX10_span_44 rfl ?_
  refine V_istore 47 [(9, .int 0), (8, .int 0), (7, .int 0), (6, .int 2147483647), (0, rf G 0), (1, .int x1), (2, .int (nI y)), (3, .int x3), (4, .int (nI n)), (5, .int (nI j))] (by decide) rfl dX10_span_45 rfl ?_
  rw [nI_clamp (show y < 2 ^ 31 by omega), nI_clamp (show n < 2 ^ 31 by omega), nI_clamp (show j < 2 ^ 31 by omega)] at hq
  have L : ∀ i, i ≤ y → ∀ I1, FrQ I I1 → V G mX10_span (d + 60) 8 48 4 24 47 [(9, .int (nI i)), (6, .int ((spF K f x3 D x1 n i).1)), (7, .int ((spF K f x3 D x1 n i).2.1)), (8, .int ((spF K f x3 D x1 n i).2.2)), (0, rf G 0), (1, .int x1), (2, .int (nI y)), (3, .int x3), (4, .int (nI n)), (5, .int (nI j))] [] 103 I1 R J Q := by
    refine loopd y (fun I1 hz1 => ?_) (fun i hi ih I1 hz1 => ?_)
    · refine V_iload 49 0 rfl dX10_span_47 rfl ?_
      refine V_iload_n 50 6 rfl rfl dX10_span_49 rfl ?_
      refine V_icmp_ge 146 53 rfl dX10_span_50 rfl (fun c50 => ?_) (fun c50 => absurd (Int32.le_refl _) c50)
      rcases (show j = 0 ∨ j = 1 ∨ j = 2 by omega) with rfl | rfl | rfl
      · show V _ _ _ _ _ _ _ _ [(9, .int (nI y)), (6, .int ((spF K f x3 D x1 n y).1)), (7, .int ((spF K f x3 D x1 n y).2.1)), (8, .int ((spF K f x3 D x1 n y).2.2)), (0, rf G 0), (1, .int x1), (2, .int (nI y)), (3, .int x3), (4, .int (nI n)), (5, .int 0)] [] _ _ _ _ _
        refine V_iload 148 9 rfl dX10_span_146 rfl ?_
        refine V_if_ne 156 151 rfl dX10_span_148 rfl (fun c148 => absurd c148 (by decide)) (fun c148 => ?_)
        refine V_iload 153 1 rfl dX10_span_151 rfl ?_
        refine V_goto 169 rfl dX10_span_153 ?_
        refine V_ret_i rfl rfl (Nat.le_of_ble_eq_true rfl) (fun h => absurd h (by decide)) (Nat.le_of_ble_eq_true rfl) (hq I1 hz1) dX10_span_169
      · show V _ _ _ _ _ _ _ _ [(9, .int (nI y)), (6, .int ((spF K f x3 D x1 n y).1)), (7, .int ((spF K f x3 D x1 n y).2.1)), (8, .int ((spF K f x3 D x1 n y).2.2)), (0, rf G 0), (1, .int x1), (2, .int (nI y)), (3, .int x3), (4, .int (nI n)), (5, .int 1)] [] _ _ _ _ _
        refine V_iload 148 9 rfl dX10_span_146 rfl ?_
        refine V_if_ne 156 151 rfl dX10_span_148 rfl (fun c148 => ?_) (fun c148 => absurd c148 (by decide))
        refine V_iload 158 9 rfl dX10_span_156 rfl ?_
        refine V_iconst 159 (1) rfl dX10_span_158 rfl ?_
        refine V_icmp_ne 167 162 rfl dX10_span_159 rfl (fun c159 => absurd c159 (by decide)) (fun c159 => ?_)
        refine V_iload 164 2 rfl dX10_span_162 rfl ?_
        refine V_goto 169 rfl dX10_span_164 ?_
        refine V_ret_i rfl rfl (Nat.le_of_ble_eq_true rfl) (fun h => absurd h (by decide)) (Nat.le_of_ble_eq_true rfl) (hq I1 hz1) dX10_span_169
      · show V _ _ _ _ _ _ _ _ [(9, .int (nI y)), (6, .int ((spF K f x3 D x1 n y).1)), (7, .int ((spF K f x3 D x1 n y).2.1)), (8, .int ((spF K f x3 D x1 n y).2.2)), (0, rf G 0), (1, .int x1), (2, .int (nI y)), (3, .int x3), (4, .int (nI n)), (5, .int 2)] [] _ _ _ _ _
        refine V_iload 148 9 rfl dX10_span_146 rfl ?_
        refine V_if_ne 156 151 rfl dX10_span_148 rfl (fun c148 => ?_) (fun c148 => absurd c148 (by decide))
        refine V_iload 158 9 rfl dX10_span_156 rfl ?_
        refine V_iconst 159 (1) rfl dX10_span_158 rfl ?_
        refine V_icmp_ne 167 162 rfl dX10_span_159 rfl (fun c159 => ?_) (fun c159 => absurd c159 (by decide))
        refine V_iload 169 3 rfl dX10_span_167 rfl ?_
        refine V_ret_i rfl rfl (Nat.le_of_ble_eq_true rfl) (fun h => absurd h (by decide)) (Nat.le_of_ble_eq_true rfl) (hq I1 hz1) dX10_span_169
    · refine V_iload 49 0 rfl dX10_span_47 rfl ?_
      refine V_iload_n 50 6 rfl rfl dX10_span_49 rfl ?_
      refine V_icmp_ge 146 53 rfl dX10_span_50 rfl (fun c50 => absurd c50 (nI_ge hi (by omega))) (fun c50 => ?_)
      refine V_aload_n 54 4 rfl _ rfl rfl dX10_span_53 rfl ?_
      refine V_getR 57 0 10 3 26 (hRS 0 3 (by decide)) flX10_30 rfl rfl rfl (by decide) dX10_span_54 rfl ?_
      refine V_aload_n 58 4 rfl _ rfl rfl dX10_span_57 rfl ?_
      refine V_getR 61 0 10 2 18 (hRS 0 2 (by decide)) flX10_26 rfl rfl rfl (by decide) dX10_span_58 rfl ?_
      obtain ⟨-, -, -, -, -, -, hD1, -, -⟩ := RC.fr ⟨hRS, hc, hl, hb, hC, hW, hD, hI, hL⟩ hz1
      refine V_callV (K' := 0) (S' := 0) 64 26 3 1 [rf G 18] mkX3_become lkX10_252 (by decide) rfl rfl (by decide) rfl (Nat.le_of_ble_eq_true rfl) (Nat.le_of_ble_eq_true rfl) (Nat.le_of_ble_eq_true rfl) (Nat.le_of_ble_eq_true rfl) rfl rfl dX10_span_61 rfl (c_X3_become hRK hD1 (fun I2 hDg hF2 => ?_))
      refine Kq_v (k' := 4) (sl' := 24) rfl rfl ?_
      have hz2 := hz1.tr (FrQ.C hF2)
      refine V_aload_n 65 4 rfl _ rfl rfl dX10_span_64 rfl ?_
      refine V_getR 68 0 10 7 50 (hRS 0 7 (by decide)) flX10_57 rfl rfl rfl (by decide) dX10_span_65 rfl ?_
      refine V_aload_n 69 4 rfl _ rfl rfl dX10_span_68 rfl ?_
      refine V_getR 72 0 10 1 3 (hRS 0 1 (by decide)) flX10_19 rfl rfl rfl (by decide) dX10_span_69 rfl ?_
      refine V_aload_n 73 4 rfl _ rfl rfl dX10_span_72 rfl ?_
      refine V_getR 76 0 10 3 26 (hRS 0 3 (by decide)) flX10_30 rfl rfl rfl (by decide) dX10_span_73 rfl ?_
      refine V_iload_n 77 5 rfl rfl dX10_span_76 rfl ?_
      refine V_iload 79 0 rfl dX10_span_77 rfl ?_
      refine V_iadd 80 dX10_span_79 rfl ?_
      refine V_iload_n 81 7 rfl rfl dX10_span_80 rfl ?_
      refine V_iload 83 8 rfl dX10_span_81 rfl ?_
      refine V_callV (K' := 0) (S' := 0) 86 50 6 5 [rf G 3, rf G 26, .int (x1 + (nI i)), .int x3, .int (nI n)] mkX6_pass lkX10_340 (by decide) rfl rfl (by decide) rfl (Nat.le_of_ble_eq_true rfl) (Nat.le_of_ble_eq_true rfl) (Nat.le_of_ble_eq_true rfl) (Nat.le_of_ble_eq_true rfl) rfl rfl dX10_span_83 rfl (c_X6_pass (RC.fr ⟨hRS, hc, hl, hb, hC, hW, hD, hI, hL⟩ hz2) hDg hI (by omega) (fun I3 hD3 hz3 => ?_))
      refine Kq_v (k' := 4) (sl' := 24) rfl rfl ?_
      have hz4 := hz2.tr hz3
      obtain ⟨-, -, -, -, -, -, hD4, -, -⟩ := RC.fr ⟨hRS, hc, hl, hb, hC, hW, hD, hI, hL⟩ hz4
      refine V_aload_n 87 4 rfl _ rfl rfl dX10_span_86 rfl ?_
      refine V_getR 90 0 10 3 26 (hRS 0 3 (by decide)) flX10_30 rfl rfl rfl (by decide) dX10_span_87 rfl ?_
      refine V_callV (K' := 0) (S' := 0) 93 26 3 0 [] mkX3_fishLanded lkX10_184 (by decide) rfl rfl (by decide) rfl (Nat.le_of_ble_eq_true rfl) (Nat.le_of_ble_eq_true rfl) (Nat.le_of_ble_eq_true rfl) (Nat.le_of_ble_eq_true rfl) rfl rfl dX10_span_90 rfl (c_X3_fishLanded_26 hRK hD3 ?_)
      refine Kq_i (k' := 4) (sl' := 24) rfl rfl ?_
      refine V_istore 95 [(10, .int (sumF (spI K f x3 D x1 n i) 24 6)), (9, .int (nI i)), (6, .int ((spF K f x3 D x1 n i).1)), (7, .int ((spF K f x3 D x1 n i).2.1)), (8, .int ((spF K f x3 D x1 n i).2.2)), (0, rf G 0), (1, .int x1), (2, .int (nI y)), (3, .int x3), (4, .int (nI n)), (5, .int (nI j))] (by decide) rfl dX10_span_93 rfl ?_
      refine V_iload 97 2 rfl dX10_span_95 rfl ?_
      refine V_iload 99 0 rfl dX10_span_97 rfl ?_
      refine V_min 102 lkX10_326 (Nat.le_of_ble_eq_true rfl) (Nat.le_of_ble_eq_true rfl) (Nat.le_of_ble_eq_true rfl) dX10_span_99 rfl ?_
      refine V_rw (show _ = (spF K f x3 D x1 n (i + 1)).1 from rfl) ?_
      refine V_istore 104 [(6, .int ((spF K f x3 D x1 n (i + 1)).1)), (10, .int (sumF (spI K f x3 D x1 n i) 24 6)), (9, .int (nI i)), (7, .int ((spF K f x3 D x1 n i).2.1)), (8, .int ((spF K f x3 D x1 n i).2.2)), (0, rf G 0), (1, .int x1), (2, .int (nI y)), (3, .int x3), (4, .int (nI n)), (5, .int (nI j))] (by decide) rfl dX10_span_102 rfl ?_
      refine V_iload 106 3 rfl dX10_span_104 rfl ?_
      refine V_iload 108 1 rfl dX10_span_106 rfl ?_
      refine V_max 111 lkX10_344 (Nat.le_of_ble_eq_true rfl) (Nat.le_of_ble_eq_true rfl) (Nat.le_of_ble_eq_true rfl) dX10_span_108 rfl ?_
      refine V_rw (show _ = (spF K f x3 D x1 n (i + 1)).2.1 from rfl) ?_
      refine V_istore 113 [(7, .int ((spF K f x3 D x1 n (i + 1)).2.1)), (6, .int ((spF K f x3 D x1 n (i + 1)).1)), (10, .int (sumF (spI K f x3 D x1 n i) 24 6)), (9, .int (nI i)), (8, .int ((spF K f x3 D x1 n i).2.2)), (0, rf G 0), (1, .int x1), (2, .int (nI y)), (3, .int x3), (4, .int (nI n)), (5, .int (nI j))] (by decide) rfl dX10_span_111 rfl ?_
      refine V_iload 115 4 rfl dX10_span_113 rfl ?_
      refine V_aload_n 116 5 rfl _ rfl rfl dX10_span_115 rfl ?_
      refine V_getR 119 0 10 3 26 (hRS 0 3 (by decide)) flX10_30 rfl rfl rfl (by decide) dX10_span_116 rfl ?_
      refine V_getI 122 26 3 8 (livB (spI K f x3 D x1 n i) 6) hD3.2.2.2.2.2.2.2.2 flX10_171 rfl rfl rfl (by decide) dX10_span_119 rfl ?_
      refine V_aload_n 123 5 rfl _ rfl rfl dX10_span_122 rfl ?_
      refine V_getR 126 0 10 2 18 (hRS 0 2 (by decide)) flX10_26 rfl rfl rfl (by decide) dX10_span_123 rfl ?_
      refine V_getI 129 18 3 8 (livB D 6) hD4.2.2.2.2.2.2.2.2 flX10_171 rfl rfl rfl (by decide) dX10_span_126 rfl ?_
      refine V_icmp_ne 136 132 rfl dX10_span_129 rfl (fun c129 => ?_) (fun c129 => ?_)
      · refine V_iconst 137 (0) rfl dX10_span_136 rfl ?_
        refine V_iadd 138 dX10_span_137 rfl ?_
        refine V_rw (show _ = (spF K f x3 D x1 n (i + 1)).2.2 from by show _ = _ + (if _ then _ else _); first | rw [if_neg c129] | rw [if_pos c129]) ?_
        refine V_istore 140 [(8, .int ((spF K f x3 D x1 n (i + 1)).2.2)), (7, .int ((spF K f x3 D x1 n (i + 1)).2.1)), (6, .int ((spF K f x3 D x1 n (i + 1)).1)), (10, .int (sumF (spI K f x3 D x1 n i) 24 6)), (9, .int (nI i)), (0, rf G 0), (1, .int x1), (2, .int (nI y)), (3, .int x3), (4, .int (nI n)), (5, .int (nI j))] (by decide) rfl dX10_span_138 rfl ?_
        refine V_iinc 143 4 rfl (nI (i + 1)) [(9, .int (nI (i + 1))), (8, .int ((spF K f x3 D x1 n (i + 1)).2.2)), (7, .int ((spF K f x3 D x1 n (i + 1)).2.1)), (6, .int ((spF K f x3 D x1 n (i + 1)).1)), (10, .int (sumF (spI K f x3 D x1 n i) 24 6)), (0, rf G 0), (1, .int x1), (2, .int (nI y)), (3, .int x3), (4, .int (nI n)), (5, .int (nI j))] (nI_1 _) (by decide) rfl dX10_span_140 rfl ?_
        refine V_goto 47 rfl dX10_span_143 ?_
        exact V_lv [0, 3, 2, 1, 5, 6, 7, 8, 9, 10] rfl (ih I3 hz4)
      · refine V_iconst 133 (1) rfl dX10_span_132 rfl ?_
        refine V_goto 137 rfl dX10_span_133 ?_
        refine V_iadd 138 dX10_span_137 rfl ?_
        refine V_rw (show _ = (spF K f x3 D x1 n (i + 1)).2.2 from by show _ = _ + (if _ then _ else _); first | rw [if_neg c129] | rw [if_pos c129]) ?_
        refine V_istore 140 [(8, .int ((spF K f x3 D x1 n (i + 1)).2.2)), (7, .int ((spF K f x3 D x1 n (i + 1)).2.1)), (6, .int ((spF K f x3 D x1 n (i + 1)).1)), (10, .int (sumF (spI K f x3 D x1 n i) 24 6)), (9, .int (nI i)), (0, rf G 0), (1, .int x1), (2, .int (nI y)), (3, .int x3), (4, .int (nI n)), (5, .int (nI j))] (by decide) rfl dX10_span_138 rfl ?_
        refine V_iinc 143 4 rfl (nI (i + 1)) [(9, .int (nI (i + 1))), (8, .int ((spF K f x3 D x1 n (i + 1)).2.2)), (7, .int ((spF K f x3 D x1 n (i + 1)).2.1)), (6, .int ((spF K f x3 D x1 n (i + 1)).1)), (10, .int (sumF (spI K f x3 D x1 n i) 24 6)), (0, rf G 0), (1, .int x1), (2, .int (nI y)), (3, .int x3), (4, .int (nI n)), (5, .int (nI j))] (nI_1 _) (by decide) rfl dX10_span_140 rfl ?_
        refine V_goto 47 rfl dX10_span_143 ?_
        exact V_lv [0, 3, 2, 1, 5, 6, 7, 8, 9, 10] rfl (ih I3 hz4)
  exact V_lv [0, 3, 2, 1, 4, 5, 6, 7, 8, 9] rfl (L 0 (Nat.zero_le _) I FrQ.rf)
set_option maxHeartbeats 8000000 in
theorem c_X10_line {G : Gx} {d : Nat} {I : FI} {R : FR} {J : FJ} {Q : Po} {c l b : Nat} {K : CO} {f : DV → Int32} {D : DV} (hX : RC I R c l b K f D) {x y : Int32}  (hq : Ho I R J Q (ckN x (cM K) (ckW y 0 1000000 (.inl (oI (itN (cHr K) y.toNatClampNeg x.toNatClampNeg)))))) : Cc G mX10_line (d + 60) 8 48 [rf G 0, .int x, .int y] 103 I R J Q := by
  obtain ⟨hRS, hc, hl, hb, hC, hW, hD, hI, hL⟩ := hX
  have hRK := hRS.K
  have hR3c : R 3 0 = some c := hRS 3 0 (by decide)
  have hR3l : R 3 1 = some l := hRS 3 1 (by decide)
  have hR32 : R 3 2 = some 16 := hRS 3 2 (by decide)
  have hR33 : R 3 3 = some 17 := hRS 3 3 (by decide)
  have h8 := hW.1
  have hg6 := hW.2.1
  have h6 := hW.2.2.1
  have hWD := hI.1
  have hFl := hI.1.1
  show V _ _ _ _ _ _ _ _ [(0, rf G 0), (1, .int x), (2, .int y)] [] _ _ _ _ _
  refine V_aload_n 1 0 rfl _ rfl rfl dX10_line_0 rfl ?_
  refine V_iload_n 2 1 rfl rfl dX10_line_1 rfl ?_
  refine V_aload_n 3 0 rfl _ rfl rfl dX10_line_2 rfl ?_
  refine V_getR 6 0 10 1 3 (hRS 0 1 (by decide)) flX10_19 rfl rfl rfl (by decide) dX10_line_3 rfl ?_
  refine V_getR 9 3 7 0 c hR3c flX10_85 rfl rfl rfl (by decide) dX10_line_6 rfl ?_
  refine V_getI 12 c 2 8 (nI (cM K)) hC.2.2.1 flX10_127 rfl (ly_c hc).1 rfl (by omega) dX10_line_9 rfl ?_
  refine V_callV (K' := 1) (S' := 6) 15 0 10 2 [.int x, .int (nI (cM K))] mkX10_needOneOf lkX10_187 (by decide) rfl rfl (by decide) rfl (Nat.le_of_ble_eq_true rfl) (Nat.le_of_ble_eq_true rfl) (Nat.le_of_ble_eq_true rfl) (Nat.le_of_ble_eq_true rfl) rfl rfl dX10_line_12 rfl (c_X10_needOneOf (c := cM K) (by omega) (fun i12 => ?_) (fun i12 => by rw [ckN_n (by omega) i12] at hq; exact hq _ rfl))
  refine Kq_v (k' := 1) (sl' := 6) rfl rfl ?_
  rw [ckN_y (by omega) i12] at hq
  obtain ⟨m, hm, rfl⟩ := i12
  refine V_aload_n 16 0 rfl _ rfl rfl dX10_line_15 rfl ?_
  refine V_iload_n 17 2 rfl rfl dX10_line_16 rfl ?_
  refine V_iconst 18 (0) rfl dX10_line_17 rfl ?_
  refine V_ldcw 21 (1000000) rfl ckX10_278 dX10_line_18 rfl ?_
  refine V_callV (K' := 1) (S' := 6) 24 0 10 3 [.int y, .int 0, .int 1000000] mkX10_needWithin lkX10_158 (by decide) rfl rfl (by decide) rfl (Nat.le_of_ble_eq_true rfl) (Nat.le_of_ble_eq_true rfl) (Nat.le_of_ble_eq_true rfl) (Nat.le_of_ble_eq_true rfl) rfl rfl dX10_line_21 rfl (c_X10_needWithin (fun a21 b21 => ?_) (fun a21 => by rw [ckW_n a21] at hq; exact hq _ rfl))
  refine Kq_v (k' := 2) (sl' := 12) rfl rfl ?_
  rw [ckW_y a21 b21] at hq
  obtain ⟨n, hn, rfl⟩ := in_nI (n := 1000000) (by decide) a21 b21
  refine V_aload_n 25 0 rfl _ rfl rfl dX10_line_24 rfl ?_
  refine V_getR 28 0 10 1 3 (hRS 0 1 (by decide)) flX10_19 rfl rfl rfl (by decide) dX10_line_25 rfl ?_
  refine V_getR 31 3 7 0 c hR3c flX10_85 rfl rfl rfl (by decide) dX10_line_28 rfl ?_
  refine V_iload_n 32 1 rfl rfl dX10_line_31 rfl ?_
  refine V_iload_n 33 2 rfl rfl dX10_line_32 rfl ?_
  rw [nI_clamp (show n < 2 ^ 31 by omega), nI_clamp (show m < 2 ^ 31 by omega)] at hq
  rw [← it_hs h6 hW.2.2.2.1 hm n] at hq
  refine V_callV (K' := 0) (S' := 0) 36 c 2 2 [.int (nI m), .int (nI n)] mkX2_heirAfter lkX10_279 (by decide) rfl (ly_c hc).1 (by omega) rfl (Nat.le_of_ble_eq_true rfl) (Nat.le_of_ble_eq_true rfl) (Nat.le_of_ble_eq_true rfl) (Nat.le_of_ble_eq_true rfl) rfl rfl dX10_line_33 rfl (c_X2_heirAfter hRK hc hC hW hm hn ?_)
  refine Kq_i (k' := 2) (sl' := 12) rfl rfl ?_
  refine V_ret_i rfl rfl (Nat.le_of_ble_eq_true rfl) (fun h => absurd h (by decide)) (Nat.le_of_ble_eq_true rfl) (hq I FrQ.rf) dX10_line_36
set_option maxHeartbeats 4000000 in
theorem c_X2_meetingOf {G : Gx} {d : Nat} {I : FI} {R : FR} {J : FJ} {Q : Po} (hRK : RK R) {K : CO} {c : Nat} (hc : c = 4 ∨ c = 51) (hC : CoastC I c K) (hW : WK K) {m o : Nat} (hm : m < cM K) (ho : o < cM K) (hq : Q (.inl (some (.int (mtF (cHr K) m o (cM K)).1))) 103 I R J) : Cc G mX2_meetingOf (d + 1) 0 0 [rf G c, .int (nI m), .int (nI o)] 103 I R J Q := by
  have h6 := hW.2.2.1
  have L : ∀ i, i ≤ cM K → V G mX2_meetingOf (d + 1) 0 0 0 0 9 [(5, .int (nI i)), (3, .int ((mtF (cHr K) m o i).1)), (4, .int (mtC (mtF (cHr K) m o i))), (0, rf G c), (1, .int (nI m)), (2, .int (nI o))] [] 103 I R J Q := by
    refine loopd (cM K) ?_ (fun i hi ih => ?_)
    · refine V_iload 11 0 rfl dX2_meetingOf_9 rfl ?_
      refine V_aload_n 12 3 rfl _ rfl rfl dX2_meetingOf_11 rfl ?_
      refine V_getI 15 c 2 8 (nI (cM K)) hC.2.2.1 flX2_37 rfl (ly_c hc).1 rfl (by omega) dX2_meetingOf_12 rfl ?_
      refine V_icmp_ge 74 18 rfl dX2_meetingOf_15 rfl (fun c15 => ?_) (fun c15 => absurd (Int32.le_refl _) c15)
      refine V_iload_n 75 1 rfl rfl dX2_meetingOf_74 rfl ?_
      refine V_ret_i rfl rfl (Nat.le_of_ble_eq_true rfl) (fun h => absurd h (by decide)) (Nat.le_of_ble_eq_true rfl) (hq) dX2_meetingOf_75
    · refine V_iload 11 0 rfl dX2_meetingOf_9 rfl ?_
      refine V_aload_n 12 3 rfl _ rfl rfl dX2_meetingOf_11 rfl ?_
      refine V_getI 15 c 2 8 (nI (cM K)) hC.2.2.1 flX2_37 rfl (ly_c hc).1 rfl (by omega) dX2_meetingOf_12 rfl ?_
      refine V_icmp_ge 74 18 rfl dX2_meetingOf_15 rfl (fun c15 => absurd c15 (nI_ge hi (by omega))) (fun c15 => ?_)
      refine V_aload_n 19 3 rfl _ rfl rfl dX2_meetingOf_18 rfl ?_
      refine V_iload_n 20 4 rfl rfl dX2_meetingOf_19 rfl ?_
      refine V_iload 22 0 rfl dX2_meetingOf_20 rfl ?_
      refine V_callV (K' := 0) (S' := 0) 25 c 2 2 [.int (nI m), .int (nI i)] mkX2_stepsBetween lkX2_92 (by decide) rfl (ly_c hc).1 (by omega) rfl (Nat.le_of_ble_eq_true rfl) (Nat.le_of_ble_eq_true rfl) (Nat.le_of_ble_eq_true rfl) (Nat.le_of_ble_eq_true rfl) rfl rfl dX2_meetingOf_22 rfl (c_X2_stepsBetween hRK hc hC hW hm hi ?_)
      refine Kq_i (k' := 0) (sl' := 0) rfl rfl ?_
      refine V_istore 27 [(6, .int (stF (cHr K) i 6 0 (some m))), (5, .int (nI i)), (3, .int ((mtF (cHr K) m o i).1)), (4, .int (mtC (mtF (cHr K) m o i))), (0, rf G c), (1, .int (nI m)), (2, .int (nI o))] (by decide) rfl dX2_meetingOf_25 rfl ?_
      refine V_aload_n 28 4 rfl _ rfl rfl dX2_meetingOf_27 rfl ?_
      refine V_iload_n 29 6 rfl rfl dX2_meetingOf_28 rfl ?_
      refine V_iload 31 1 rfl dX2_meetingOf_29 rfl ?_
      refine V_callV (K' := 0) (S' := 0) 34 c 2 2 [.int (nI o), .int (nI i)] mkX2_stepsBetween lkX2_92 (by decide) rfl (ly_c hc).1 (by omega) rfl (Nat.le_of_ble_eq_true rfl) (Nat.le_of_ble_eq_true rfl) (Nat.le_of_ble_eq_true rfl) (Nat.le_of_ble_eq_true rfl) rfl rfl dX2_meetingOf_31 rfl (c_X2_stepsBetween hRK hc hC hW ho hi ?_)
      refine Kq_i (k' := 0) (sl' := 0) rfl rfl ?_
      refine V_istore 36 [(7, .int (stF (cHr K) i 6 0 (some o))), (6, .int (stF (cHr K) i 6 0 (some m))), (5, .int (nI i)), (3, .int ((mtF (cHr K) m o i).1)), (4, .int (mtC (mtF (cHr K) m o i))), (0, rf G c), (1, .int (nI m)), (2, .int (nI o))] (by decide) rfl dX2_meetingOf_34 rfl ?_
      refine V_iload 38 1 rfl dX2_meetingOf_36 rfl ?_
      refine V_iconst 39 (-1) rfl dX2_meetingOf_38 rfl ?_
      refine V_icmp_eq 68 42 rfl dX2_meetingOf_39 rfl (fun c39 => ?_) (fun c39 => ?_)
      · have eG : mtF (cHr K) m o (i + 1) = mtF (cHr K) m o i := mtF_no (by first | exact Or.inl c39 | exact Or.inr (Or.inl c45) | exact Or.inr (Or.inr (Int32.not_lt.mpr c55)))
        rw [eG] at ih
        refine V_iinc 71 2 rfl (nI (i + 1)) [(5, .int (nI (i + 1))), (7, .int (stF (cHr K) i 6 0 (some o))), (6, .int (stF (cHr K) i 6 0 (some m))), (3, .int ((mtF (cHr K) m o i).1)), (4, .int (mtC (mtF (cHr K) m o i))), (0, rf G c), (1, .int (nI m)), (2, .int (nI o))] (nI_1 _) (by decide) rfl dX2_meetingOf_68 rfl ?_
        refine V_goto 9 rfl dX2_meetingOf_71 ?_
        exact V_lv [0, 3, 4, 5, 6, 7] rfl (ih)
      · refine V_iload 44 0 rfl dX2_meetingOf_42 rfl ?_
        refine V_iconst 45 (-1) rfl dX2_meetingOf_44 rfl ?_
        refine V_icmp_eq 68 48 rfl dX2_meetingOf_45 rfl (fun c45 => ?_) (fun c45 => ?_)
        · have eG : mtF (cHr K) m o (i + 1) = mtF (cHr K) m o i := mtF_no (by first | exact Or.inl c39 | exact Or.inr (Or.inl c45) | exact Or.inr (Or.inr (Int32.not_lt.mpr c55)))
          rw [eG] at ih
          refine V_iinc 71 2 rfl (nI (i + 1)) [(5, .int (nI (i + 1))), (7, .int (stF (cHr K) i 6 0 (some o))), (6, .int (stF (cHr K) i 6 0 (some m))), (3, .int ((mtF (cHr K) m o i).1)), (4, .int (mtC (mtF (cHr K) m o i))), (0, rf G c), (1, .int (nI m)), (2, .int (nI o))] (nI_1 _) (by decide) rfl dX2_meetingOf_68 rfl ?_
          refine V_goto 9 rfl dX2_meetingOf_71 ?_
          exact V_lv [0, 3, 4, 5, 6, 7] rfl (ih)
        · refine V_iload 50 1 rfl dX2_meetingOf_48 rfl ?_
          refine V_iload 52 0 rfl dX2_meetingOf_50 rfl ?_
          refine V_iadd 53 dX2_meetingOf_52 rfl ?_
          refine V_iload 55 4 rfl dX2_meetingOf_53 rfl ?_
          refine V_icmp_ge 68 58 rfl dX2_meetingOf_55 rfl (fun c55 => ?_) (fun c55 => ?_)
          · have eG : mtF (cHr K) m o (i + 1) = mtF (cHr K) m o i := mtF_no (by first | exact Or.inl c39 | exact Or.inr (Or.inl c45) | exact Or.inr (Or.inr (Int32.not_lt.mpr c55)))
            rw [eG] at ih
            refine V_iinc 71 2 rfl (nI (i + 1)) [(5, .int (nI (i + 1))), (7, .int (stF (cHr K) i 6 0 (some o))), (6, .int (stF (cHr K) i 6 0 (some m))), (3, .int ((mtF (cHr K) m o i).1)), (4, .int (mtC (mtF (cHr K) m o i))), (0, rf G c), (1, .int (nI m)), (2, .int (nI o))] (nI_1 _) (by decide) rfl dX2_meetingOf_68 rfl ?_
            refine V_goto 9 rfl dX2_meetingOf_71 ?_
            exact V_lv [0, 3, 4, 5, 6, 7] rfl (ih)
          · refine V_iload 60 1 rfl dX2_meetingOf_58 rfl ?_
            refine V_iload 62 0 rfl dX2_meetingOf_60 rfl ?_
            refine V_iadd 63 dX2_meetingOf_62 rfl ?_
            refine V_rw (show _ = mtC (nI i, stF (cHr K) i 6 0 (some m) + stF (cHr K) i 6 0 (some o)) from (mtC_go (by omega)).symm) ?_
            refine V_istore 65 [(4, .int (mtC (nI i, stF (cHr K) i 6 0 (some m) + stF (cHr K) i 6 0 (some o)))), (7, .int (stF (cHr K) i 6 0 (some o))), (6, .int (stF (cHr K) i 6 0 (some m))), (5, .int (nI i)), (3, .int ((mtF (cHr K) m o i).1)), (0, rf G c), (1, .int (nI m)), (2, .int (nI o))] (by decide) rfl dX2_meetingOf_63 rfl ?_
            refine V_iload 67 3 rfl dX2_meetingOf_65 rfl ?_
            refine V_istore_n 68 [(3, .int (nI i)), (4, .int (mtC (nI i, stF (cHr K) i 6 0 (some m) + stF (cHr K) i 6 0 (some o)))), (7, .int (stF (cHr K) i 6 0 (some o))), (6, .int (stF (cHr K) i 6 0 (some m))), (5, .int (nI i)), (0, rf G c), (1, .int (nI m)), (2, .int (nI o))] (by decide) rfl rfl dX2_meetingOf_67 rfl ?_
            have eG : mtF (cHr K) m o (i + 1) = (nI i, stF (cHr K) i 6 0 (some m) + stF (cHr K) i 6 0 (some o)) := (mtF_go c39 c45 (Int32.not_le.mp c55))
            rw [eG] at ih
            refine V_iinc 71 4 rfl (nI (i + 1)) [(5, .int (nI (i + 1))), (3, .int (nI i)), (4, .int (mtC (nI i, stF (cHr K) i 6 0 (some m) + stF (cHr K) i 6 0 (some o)))), (7, .int (stF (cHr K) i 6 0 (some o))), (6, .int (stF (cHr K) i 6 0 (some m))), (0, rf G c), (1, .int (nI m)), (2, .int (nI o))] (nI_1 _) (by decide) rfl dX2_meetingOf_68 rfl ?_
            refine V_goto 9 rfl dX2_meetingOf_71 ?_
            exact V_lv [0, 1, 2, 5, 6, 7] rfl (ih)
  show V _ _ _ _ _ _ _ _ [(0, rf G c), (1, .int (nI m)), (2, .int (nI o))] [] _ _ _ _ _
  refine V_iconst 1 (-1) rfl dX2_meetingOf_0 rfl ?_
  refine V_istore_n 2 [(3, .int (-1)), (0, rf G c), (1, .int (nI m)), (2, .int (nI o))] (by decide) rfl rfl dX2_meetingOf_1 rfl ?_
  refine V_ldc 4 (2147483647) rfl ckX2_91 dX2_meetingOf_2 rfl ?_
  refine V_istore 6 [(4, .int 2147483647), (3, .int (-1)), (0, rf G c), (1, .int (nI m)), (2, .int (nI o))] (by decide) rfl dX2_meetingOf_4 rfl ?_
  refine V_iconst 7 (0) rfl dX2_meetingOf_6 rfl ?_
  refine V_istore 9 [(5, .int 0), (4, .int 2147483647), (3, .int (-1)), (0, rf G c), (1, .int (nI m)), (2, .int (nI o))] (by decide) rfl dX2_meetingOf_7 rfl ?_
  exact V_lv [0, 2, 1, 3, 4, 5] rfl (L 0 (Nat.zero_le _))
set_option maxHeartbeats 8000000 in
theorem c_X10_meets {G : Gx} {d : Nat} {I : FI} {R : FR} {J : FJ} {Q : Po} {c l b : Nat} {K : CO} {f : DV → Int32} {D : DV} (hX : RC I R c l b K f D) {x y z : Int32}  (hq : Ho I R J Q (ckN x (cM K) (ckN y (cM K) (ckW z 0 1 (.inl (beO (mtF (cHr K) x.toNatClampNeg y.toNatClampNeg (cM K)) z.toNatClampNeg)))))) : Cc G mX10_meets (d + 60) 8 48 [rf G 0, .int x, .int y, .int z] 103 I R J Q := by
  obtain ⟨hRS, hc, hl, hb, hC, hW, hD, hI, hL⟩ := hX
  have hRK := hRS.K
  have hR3c : R 3 0 = some c := hRS 3 0 (by decide)
  have hR3l : R 3 1 = some l := hRS 3 1 (by decide)
  have hR32 : R 3 2 = some 16 := hRS 3 2 (by decide)
  have hR33 : R 3 3 = some 17 := hRS 3 3 (by decide)
  have h8 := hW.1
  have hg6 := hW.2.1
  have h6 := hW.2.2.1
  have hWD := hI.1
  have hFl := hI.1.1
  show V _ _ _ _ _ _ _ _ [(0, rf G 0), (1, .int x), (2, .int y), (3, .int z)] [] _ _ _ _ _
  refine V_aload_n 1 0 rfl _ rfl rfl dX10_meets_0 rfl ?_
  refine V_iload_n 2 1 rfl rfl dX10_meets_1 rfl ?_
  refine V_aload_n 3 0 rfl _ rfl rfl dX10_meets_2 rfl ?_
  refine V_getR 6 0 10 1 3 (hRS 0 1 (by decide)) flX10_19 rfl rfl rfl (by decide) dX10_meets_3 rfl ?_
  refine V_getR 9 3 7 0 c hR3c flX10_85 rfl rfl rfl (by decide) dX10_meets_6 rfl ?_
  refine V_getI 12 c 2 8 (nI (cM K)) hC.2.2.1 flX10_127 rfl (ly_c hc).1 rfl (by omega) dX10_meets_9 rfl ?_
  refine V_callV (K' := 1) (S' := 6) 15 0 10 2 [.int x, .int (nI (cM K))] mkX10_needOneOf lkX10_187 (by decide) rfl rfl (by decide) rfl (Nat.le_of_ble_eq_true rfl) (Nat.le_of_ble_eq_true rfl) (Nat.le_of_ble_eq_true rfl) (Nat.le_of_ble_eq_true rfl) rfl rfl dX10_meets_12 rfl (c_X10_needOneOf (c := cM K) (by omega) (fun i12 => ?_) (fun i12 => by rw [ckN_n (by omega) i12] at hq; exact hq _ rfl))
  refine Kq_v (k' := 1) (sl' := 6) rfl rfl ?_
  rw [ckN_y (by omega) i12] at hq
  obtain ⟨m, hm, rfl⟩ := i12
  refine V_aload_n 16 0 rfl _ rfl rfl dX10_meets_15 rfl ?_
  refine V_iload_n 17 2 rfl rfl dX10_meets_16 rfl ?_
  refine V_aload_n 18 0 rfl _ rfl rfl dX10_meets_17 rfl ?_
  refine V_getR 21 0 10 1 3 (hRS 0 1 (by decide)) flX10_19 rfl rfl rfl (by decide) dX10_meets_18 rfl ?_
  refine V_getR 24 3 7 0 c hR3c flX10_85 rfl rfl rfl (by decide) dX10_meets_21 rfl ?_
  refine V_getI 27 c 2 8 (nI (cM K)) hC.2.2.1 flX10_127 rfl (ly_c hc).1 rfl (by omega) dX10_meets_24 rfl ?_
  refine V_callV (K' := 1) (S' := 6) 30 0 10 2 [.int y, .int (nI (cM K))] mkX10_needOneOf lkX10_187 (by decide) rfl rfl (by decide) rfl (Nat.le_of_ble_eq_true rfl) (Nat.le_of_ble_eq_true rfl) (Nat.le_of_ble_eq_true rfl) (Nat.le_of_ble_eq_true rfl) rfl rfl dX10_meets_27 rfl (c_X10_needOneOf (c := cM K) (by omega) (fun i27 => ?_) (fun i27 => by rw [ckN_n (by omega) i27] at hq; exact hq _ rfl))
  refine Kq_v (k' := 2) (sl' := 12) rfl rfl ?_
  rw [ckN_y (by omega) i27] at hq
  obtain ⟨o, ho, rfl⟩ := i27
  refine V_aload_n 31 0 rfl _ rfl rfl dX10_meets_30 rfl ?_
  refine V_iload_n 32 3 rfl rfl dX10_meets_31 rfl ?_
  refine V_iconst 33 (0) rfl dX10_meets_32 rfl ?_
  refine V_iconst 34 (1) rfl dX10_meets_33 rfl ?_
  refine V_callV (K' := 1) (S' := 6) 37 0 10 3 [.int z, .int 0, .int 1] mkX10_needWithin lkX10_158 (by decide) rfl rfl (by decide) rfl (Nat.le_of_ble_eq_true rfl) (Nat.le_of_ble_eq_true rfl) (Nat.le_of_ble_eq_true rfl) (Nat.le_of_ble_eq_true rfl) rfl rfl dX10_meets_34 rfl (c_X10_needWithin (fun a34 b34 => ?_) (fun a34 => by rw [ckW_n a34] at hq; exact hq _ rfl))
  refine Kq_v (k' := 3) (sl' := 18) rfl rfl ?_
  rw [ckW_y a34 b34] at hq
  obtain ⟨j, hj, rfl⟩ := in_nI (n := 1) (by decide) a34 b34
  refine V_aload_n 38 0 rfl _ rfl rfl dX10_meets_37 rfl ?_
  refine V_getR 41 0 10 1 3 (hRS 0 1 (by decide)) flX10_19 rfl rfl rfl (by decide) dX10_meets_38 rfl ?_
  refine V_getR 44 3 7 0 c hR3c flX10_85 rfl rfl rfl (by decide) dX10_meets_41 rfl ?_
  refine V_iload_n 45 1 rfl rfl dX10_meets_44 rfl ?_
  refine V_iload_n 46 2 rfl rfl dX10_meets_45 rfl ?_
  rw [nI_clamp (show m < 2 ^ 31 by omega), nI_clamp (show o < 2 ^ 31 by omega), nI_clamp (show j < 2 ^ 31 by omega)] at hq
  refine V_callV (K' := 0) (S' := 0) 49 c 2 2 [.int (nI m), .int (nI o)] mkX2_meetingOf lkX10_283 (by decide) rfl (ly_c hc).1 (by omega) rfl (Nat.le_of_ble_eq_true rfl) (Nat.le_of_ble_eq_true rfl) (Nat.le_of_ble_eq_true rfl) (Nat.le_of_ble_eq_true rfl) rfl rfl dX10_meets_46 rfl (c_X2_meetingOf hRK hc hC hW hm ho ?_)
  refine Kq_i (k' := 3) (sl' := 18) rfl rfl ?_
  refine V_istore 51 [(4, .int ((mtF (cHr K) m o (cM K)).1)), (0, rf G 0), (1, .int (nI m)), (2, .int (nI o)), (3, .int (nI j))] (by decide) rfl dX10_meets_49 rfl ?_
  rcases mtF_is (cHr K) m o (cM K) with ⟨e1, e2⟩ | ⟨q, hqm, e1, e2⟩
  · rcases (show j = 0 ∨ j = 1 by omega) with rfl | rfl
    · rw [show beO (mtF (cHr K) m o (cM K)) 0 = -1 from e1] at hq
      rw [e1]
      show V _ _ _ _ _ _ _ _ [(4, .int (-1)), (0, rf G 0), (1, .int (nI m)), (2, .int (nI o)), (3, .int 0)] [] _ _ _ _ _
      refine V_iload 53 0 rfl dX10_meets_51 rfl ?_
      refine V_iconst 54 (-1) rfl dX10_meets_53 rfl ?_
      refine V_icmp_eq 61 57 rfl dX10_meets_54 rfl (fun c54 => ?_) (fun c54 => absurd rfl c54)
      refine V_iload 63 0 rfl dX10_meets_61 rfl ?_
      refine V_ret_i rfl rfl (Nat.le_of_ble_eq_true rfl) (fun h => absurd h (by decide)) (Nat.le_of_ble_eq_true rfl) (hq I FrQ.rf) dX10_meets_63
    · rw [show beO (mtF (cHr K) m o (cM K)) 1 = -1 from e2] at hq
      rw [e1]
      show V _ _ _ _ _ _ _ _ [(4, .int (-1)), (0, rf G 0), (1, .int (nI m)), (2, .int (nI o)), (3, .int 1)] [] _ _ _ _ _
      refine V_iload 53 0 rfl dX10_meets_51 rfl ?_
      refine V_iconst 54 (-1) rfl dX10_meets_53 rfl ?_
      refine V_icmp_eq 61 57 rfl dX10_meets_54 rfl (fun c54 => ?_) (fun c54 => absurd rfl c54)
      refine V_iload 63 0 rfl dX10_meets_61 rfl ?_
      refine V_ret_i rfl rfl (Nat.le_of_ble_eq_true rfl) (fun h => absurd h (by decide)) (Nat.le_of_ble_eq_true rfl) (hq I FrQ.rf) dX10_meets_63
  · rcases (show j = 0 ∨ j = 1 by omega) with rfl | rfl
    · rw [show beO (mtF (cHr K) m o (cM K)) 0 = nI q from e1] at hq
      rw [e1]
      show V _ _ _ _ _ _ _ _ [(4, .int (nI q)), (0, rf G 0), (1, .int (nI m)), (2, .int (nI o)), (3, .int 0)] [] _ _ _ _ _
      refine V_iload 53 0 rfl dX10_meets_51 rfl ?_
      refine V_iconst 54 (-1) rfl dX10_meets_53 rfl ?_
      refine V_icmp_eq 61 57 rfl dX10_meets_54 rfl (fun c54 => absurd c54 (nI_ne (by omega))) (fun c54 => ?_)
      refine V_iload_n 58 4 rfl rfl dX10_meets_57 rfl ?_
      refine V_if_ne 64 61 rfl dX10_meets_58 rfl (fun c58 => absurd c58 (by decide)) (fun c58 => ?_)
      refine V_iload 63 0 rfl dX10_meets_61 rfl ?_
      refine V_ret_i rfl rfl (Nat.le_of_ble_eq_true rfl) (fun h => absurd h (by decide)) (Nat.le_of_ble_eq_true rfl) (hq I FrQ.rf) dX10_meets_63
    · rw [show beO (mtF (cHr K) m o (cM K)) 1 = stF (cHr K) q 6 0 (some m) + stF (cHr K) q 6 0 (some o) from e2] at hq
      rw [e1]
      show V _ _ _ _ _ _ _ _ [(4, .int (nI q)), (0, rf G 0), (1, .int (nI m)), (2, .int (nI o)), (3, .int 1)] [] _ _ _ _ _
      refine V_iload 53 0 rfl dX10_meets_51 rfl ?_
      refine V_iconst 54 (-1) rfl dX10_meets_53 rfl ?_
      refine V_icmp_eq 61 57 rfl dX10_meets_54 rfl (fun c54 => absurd c54 (nI_ne (by omega))) (fun c54 => ?_)
      refine V_iload_n 58 4 rfl rfl dX10_meets_57 rfl ?_
      refine V_if_ne 64 61 rfl dX10_meets_58 rfl (fun c58 => ?_) (fun c58 => absurd c58 (by decide))
      refine V_aload_n 65 1 rfl _ rfl rfl dX10_meets_64 rfl ?_
      refine V_getR 68 0 10 1 3 (hRS 0 1 (by decide)) flX10_19 rfl rfl rfl (by decide) dX10_meets_65 rfl ?_
      refine V_getR 71 3 7 0 c hR3c flX10_85 rfl rfl rfl (by decide) dX10_meets_68 rfl ?_
      refine V_iload_n 72 2 rfl rfl dX10_meets_71 rfl ?_
      refine V_iload 74 0 rfl dX10_meets_72 rfl ?_
      refine V_callV (K' := 0) (S' := 0) 77 c 2 2 [.int (nI m), .int (nI q)] mkX2_stepsBetween lkX10_286 (by decide) rfl (ly_c hc).1 (by omega) rfl (Nat.le_of_ble_eq_true rfl) (Nat.le_of_ble_eq_true rfl) (Nat.le_of_ble_eq_true rfl) (Nat.le_of_ble_eq_true rfl) rfl rfl dX10_meets_74 rfl (c_X2_stepsBetween hRK hc hC hW hm hqm ?_)
      refine Kq_i (k' := 3) (sl' := 18) rfl rfl ?_
      refine V_aload_n 78 1 rfl _ rfl rfl dX10_meets_77 rfl ?_
      refine V_getR 81 0 10 1 3 (hRS 0 1 (by decide)) flX10_19 rfl rfl rfl (by decide) dX10_meets_78 rfl ?_
      refine V_getR 84 3 7 0 c hR3c flX10_85 rfl rfl rfl (by decide) dX10_meets_81 rfl ?_
      refine V_iload_n 85 3 rfl rfl dX10_meets_84 rfl ?_
      refine V_iload 87 0 rfl dX10_meets_85 rfl ?_
      refine V_callV (K' := 0) (S' := 0) 90 c 2 2 [.int (nI o), .int (nI q)] mkX2_stepsBetween lkX10_286 (by decide) rfl (ly_c hc).1 (by omega) rfl (Nat.le_of_ble_eq_true rfl) (Nat.le_of_ble_eq_true rfl) (Nat.le_of_ble_eq_true rfl) (Nat.le_of_ble_eq_true rfl) rfl rfl dX10_meets_87 rfl (c_X2_stepsBetween hRK hc hC hW ho hqm ?_)
      refine Kq_i (k' := 3) (sl' := 18) rfl rfl ?_
      refine V_iadd 91 dX10_meets_90 rfl ?_
      refine V_ret_i rfl rfl (Nat.le_of_ble_eq_true rfl) (fun h => absurd h (by decide)) (Nat.le_of_ble_eq_true rfl) (hq I FrQ.rf) dX10_meets_91
set_option maxHeartbeats 8000000 in
theorem c_X10_from {G : Gx} {d : Nat} {I : FI} {R : FR} {J : FJ} {Q : Po} {c l b : Nat} {K : CO} {f : DV → Int32} {D : DV} (hX : RC I R c l b K f D) {x : Int32}  (hq : Ho I R J Q (ckW x 0 7 (.inl (fromF (cHat K) x (cH K))))) : Cc G mX10_from (d + 60) 8 48 [rf G 0, .int x] 103 I R J Q := by
  obtain ⟨hRS, hc, hl, hb, hC, hW, hD, hI, hL⟩ := hX
  have hRK := hRS.K
  have hR3c : R 3 0 = some c := hRS 3 0 (by decide)
  have hR3l : R 3 1 = some l := hRS 3 1 (by decide)
  have hR32 : R 3 2 = some 16 := hRS 3 2 (by decide)
  have hR33 : R 3 3 = some 17 := hRS 3 3 (by decide)
  have h8 := hW.1
  have hg6 := hW.2.1
  have h6 := hW.2.2.1
  have hWD := hI.1
  have hFl := hI.1.1
  show V _ _ _ _ _ _ _ _ [(0, rf G 0), (1, .int x)] [] _ _ _ _ _
  refine V_aload_n 1 0 rfl _ rfl rfl dX10_from_0 rfl ?_
  refine V_iload_n 2 1 rfl rfl dX10_from_1 rfl ?_
  refine V_iconst 3 (0) rfl dX10_from_2 rfl ?_
  refine V_bipush 5 (7) rfl dX10_from_3 rfl ?_
  refine V_callV (K' := 1) (S' := 6) 8 0 10 3 [.int x, .int 0, .int 7] mkX10_needWithin lkX10_158 (by decide) rfl rfl (by decide) rfl (Nat.le_of_ble_eq_true rfl) (Nat.le_of_ble_eq_true rfl) (Nat.le_of_ble_eq_true rfl) (Nat.le_of_ble_eq_true rfl) rfl rfl dX10_from_5 rfl (c_X10_needWithin (fun a5 b5 => ?_) (fun a5 => by rw [ckW_n a5] at hq; exact hq _ rfl))
  refine Kq_v (k' := 1) (sl' := 6) rfl rfl ?_
  rw [ckW_y a5 b5] at hq
  refine V_aload_n 9 0 rfl _ rfl rfl dX10_from_8 rfl ?_
  refine V_getR 12 0 10 1 3 (hRS 0 1 (by decide)) flX10_19 rfl rfl rfl (by decide) dX10_from_9 rfl ?_
  refine V_getR 15 3 7 0 c hR3c flX10_85 rfl rfl rfl (by decide) dX10_from_12 rfl ?_
  refine V_iload_n 16 1 rfl rfl dX10_from_15 rfl ?_
  refine V_callV (K' := 0) (S' := 0) 19 c 2 1 [.int x] mkX2_hatsFrom lkX10_334 (by decide) rfl (ly_c hc).1 (by omega) rfl (Nat.le_of_ble_eq_true rfl) (Nat.le_of_ble_eq_true rfl) (Nat.le_of_ble_eq_true rfl) (Nat.le_of_ble_eq_true rfl) rfl rfl dX10_from_16 rfl (c_X2_hatsFrom hRK hc hC hW ?_)
  refine Kq_i (k' := 1) (sl' := 6) rfl rfl ?_
  refine V_ret_i rfl rfl (Nat.le_of_ble_eq_true rfl) (fun h => absurd h (by decide)) (Nat.le_of_ble_eq_true rfl) (hq I FrQ.rf) dX10_from_19
set_option maxHeartbeats 4000000 in
theorem c_X2_longestRow {G : Gx} {d : Nat} {I : FI} {R : FR} {J : FJ} {Q : Po} (hRK : RK R) {K : CO} {c : Nat} (hc : c = 4 ∨ c = 51) (hC : CoastC I c K) (hW : WK K) {m : Nat} (hm : m < cM K) (hq : Q (.inl (some (.int (rwF (cHr K) 6 ((1 : Int32) <<< (nI m &&& 31)) (cHr K m) 0)))) 103 I R J) : Cc G mX2_longestRow d 0 0 [rf G c, .int (nI m)] 103 I R J Q := by
  have h6 := hW.2.2.1
  have h4 := hW.2.2.2.1
  have L : ∀ n, n ≤ 6 → ∀ (s : Int32) (x : Option Nat), (∀ j, x = some j → j < cM K) → Q (.inl (some (.int (rwF (cHr K) (6 - n) s x n)))) 103 I R J → V G mX2_longestRow d 0 0 0 0 14 [(4, .int (nI n)), (3, .int (oI x)), (2, .int s), (0, rf G c)] [] 103 I R J Q := by
    refine loopd 6 (fun s x hx hq => ?_) (fun n hn ih s x hx hq => ?_)
    · refine V_iload 16 0 rfl dX2_longestRow_14 rfl ?_
      refine V_bipush 18 (6) rfl dX2_longestRow_16 rfl ?_
      refine V_icmp_ge 53 21 rfl dX2_longestRow_18 rfl (fun c18 => ?_) (fun c18 => absurd (by decide) c18)
      refine V_iload 55 0 rfl dX2_longestRow_53 rfl ?_
      refine V_ret_i rfl rfl (Nat.le_of_ble_eq_true rfl) (fun h => absurd h (by decide)) (Nat.le_of_ble_eq_true rfl) (hq) dX2_longestRow_55
    · rw [show 6 - n = (6 - (n + 1)) + 1 by omega] at hq
      cases x with
      | none =>
        refine V_iload 16 0 rfl dX2_longestRow_14 rfl ?_
        refine V_bipush 18 (6) rfl dX2_longestRow_16 rfl ?_
        refine V_icmp_ge 53 21 rfl dX2_longestRow_18 rfl (fun c18 => absurd c18 (nI_ge hn (by decide))) (fun c18 => ?_)
        refine V_iload_n 22 1 rfl rfl dX2_longestRow_21 rfl ?_
        refine V_iconst 23 (-1) rfl dX2_longestRow_22 rfl ?_
        refine V_icmp_eq 53 26 rfl dX2_longestRow_23 rfl (fun c23 => ?_) (fun c23 => absurd rfl c23)
        refine V_iload 55 0 rfl dX2_longestRow_53 rfl ?_
        refine V_ret_i rfl rfl (Nat.le_of_ble_eq_true rfl) (fun h => absurd h (by decide)) (Nat.le_of_ble_eq_true rfl) (hq) dX2_longestRow_55
      | some a =>
        have ha := hx a rfl
        rw [rwF] at hq
        show V _ _ _ _ _ _ _ _ [(4, .int (nI n)), (3, .int (nI a)), (2, .int s), (0, rf G c)] [] _ _ _ _ _
        refine V_iload 16 0 rfl dX2_longestRow_14 rfl ?_
        refine V_bipush 18 (6) rfl dX2_longestRow_16 rfl ?_
        refine V_icmp_ge 53 21 rfl dX2_longestRow_18 rfl (fun c18 => absurd c18 (nI_ge hn (by decide))) (fun c18 => ?_)
        refine V_iload_n 22 1 rfl rfl dX2_longestRow_21 rfl ?_
        refine V_iconst 23 (-1) rfl dX2_longestRow_22 rfl ?_
        refine V_icmp_eq 53 26 rfl dX2_longestRow_23 rfl (fun c23 => absurd c23 (nI_ne (by omega))) (fun c23 => ?_)
        refine V_iload_n 27 2 rfl rfl dX2_longestRow_26 rfl ?_
        refine V_iload_n 28 1 rfl rfl dX2_longestRow_27 rfl ?_
        refine V_ishr 29 dX2_longestRow_28 rfl ?_
        refine V_iconst 30 (1) rfl dX2_longestRow_29 rfl ?_
        refine V_iand 31 dX2_longestRow_30 rfl ?_
        refine V_if_ne 53 34 rfl dX2_longestRow_31 rfl (fun c31 => ?_) (fun c31 => ?_)
        · refine V_iload 55 0 rfl dX2_longestRow_53 rfl ?_
          refine V_ret_i rfl rfl (Nat.le_of_ble_eq_true rfl) (fun h => absurd h (by decide)) (Nat.le_of_ble_eq_true rfl) (by rw [if_neg c31] at hq; exact hq) dX2_longestRow_55
        · refine V_iload_n 35 2 rfl rfl dX2_longestRow_34 rfl ?_
          refine V_iconst 36 (1) rfl dX2_longestRow_35 rfl ?_
          refine V_iload_n 37 1 rfl rfl dX2_longestRow_36 rfl ?_
          refine V_ishl 38 dX2_longestRow_37 rfl ?_
          refine V_ior 39 dX2_longestRow_38 rfl ?_
          refine V_istore_n 40 [(2, .int (s ||| ((1 : Int32) <<< (nI a &&& 31)))), (4, .int (nI n)), (3, .int (nI a)), (0, rf G c)] (by decide) rfl rfl dX2_longestRow_39 rfl ?_
          refine V_aload_n 41 3 rfl _ rfl rfl dX2_longestRow_40 rfl ?_
          refine V_getR 44 c 2 5 (c + 6) (rk_c5 hRK hc) flX2_27 rfl (ly_c hc).1 rfl (by omega) dX2_longestRow_41 rfl ?_
          refine V_iload_n 45 2 rfl rfl dX2_longestRow_44 rfl ?_
          refine V_ialdN 46 (c + 6) 6 a (oI (cHr K a)) (hC.2.2.2.2.2.2.2.2 a ha) (by omega) (by decide) (ly_c hc).2.2.2.2.2.2 (by omega) dX2_longestRow_45 rfl ?_
          refine V_istore_n 47 [(3, .int (oI (cHr K a))), (2, .int (s ||| ((1 : Int32) <<< (nI a &&& 31)))), (4, .int (nI n)), (0, rf G c)] (by decide) rfl rfl dX2_longestRow_46 rfl ?_
          refine V_iinc 50 2 rfl (nI (n + 1)) [(4, .int (nI (n + 1))), (3, .int (oI (cHr K a))), (2, .int (s ||| ((1 : Int32) <<< (nI a &&& 31)))), (0, rf G c)] (nI_1 _) (by decide) rfl dX2_longestRow_47 rfl ?_
          refine V_goto 14 rfl dX2_longestRow_50 ?_
          rw [if_pos c31] at hq
          exact V_lv [0, 1, 2, 3] rfl (ih _ _ (fun j e => h4 a j e) hq)
  show V _ _ _ _ _ _ _ _ [(0, rf G c), (1, .int (nI m))] [] _ _ _ _ _
  refine V_iconst 1 (1) rfl dX2_longestRow_0 rfl ?_
  refine V_iload_n 2 1 rfl rfl dX2_longestRow_1 rfl ?_
  refine V_ishl 3 dX2_longestRow_2 rfl ?_
  refine V_istore_n 4 [(2, .int ((1 : Int32) <<< (nI m &&& 31))), (0, rf G c), (1, .int (nI m))] (by decide) rfl rfl dX2_longestRow_3 rfl ?_
  refine V_aload_n 5 1 rfl _ rfl rfl dX2_longestRow_4 rfl ?_
  refine V_getR 8 c 2 5 (c + 6) (rk_c5 hRK hc) flX2_27 rfl (ly_c hc).1 rfl (by omega) dX2_longestRow_5 rfl ?_
  refine V_iload_n 9 2 rfl rfl dX2_longestRow_8 rfl ?_
  refine V_ialdN 10 (c + 6) 6 m (oI (cHr K m)) (hC.2.2.2.2.2.2.2.2 m hm) (by omega) (by decide) (ly_c hc).2.2.2.2.2.2 (by omega) dX2_longestRow_9 rfl ?_
  refine V_istore_n 11 [(3, .int (oI (cHr K m))), (2, .int ((1 : Int32) <<< (nI m &&& 31))), (0, rf G c), (1, .int (nI m))] (by decide) rfl rfl dX2_longestRow_10 rfl ?_
  refine V_iconst 12 (0) rfl dX2_longestRow_11 rfl ?_
  refine V_istore 14 [(4, .int 0), (3, .int (oI (cHr K m))), (2, .int ((1 : Int32) <<< (nI m &&& 31))), (0, rf G c), (1, .int (nI m))] (by decide) rfl dX2_longestRow_12 rfl ?_
  exact V_lv [0, 1, 2, 3] rfl (L 0 (Nat.zero_le _) _ _ (fun j e => h4 m j e) hq)
set_option maxHeartbeats 8000000 in
theorem c_X10_row {G : Gx} {d : Nat} {I : FI} {R : FR} {J : FJ} {Q : Po} {c l b : Nat} {K : CO} {f : DV → Int32} {D : DV} (hX : RC I R c l b K f D) {x : Int32}  (hq : Ho I R J Q (ckN x (cM K) (.inl (rwF (cHr K) 6 ((1 : Int32) <<< (nI x.toNatClampNeg &&& 31)) (cHr K x.toNatClampNeg) 0)))) : Cc G mX10_row (d + 60) 8 48 [rf G 0, .int x] 103 I R J Q := by
  obtain ⟨hRS, hc, hl, hb, hC, hW, hD, hI, hL⟩ := hX
  have hRK := hRS.K
  have hR3c : R 3 0 = some c := hRS 3 0 (by decide)
  have hR3l : R 3 1 = some l := hRS 3 1 (by decide)
  have hR32 : R 3 2 = some 16 := hRS 3 2 (by decide)
  have hR33 : R 3 3 = some 17 := hRS 3 3 (by decide)
  have h8 := hW.1
  have hg6 := hW.2.1
  have h6 := hW.2.2.1
  have hWD := hI.1
  have hFl := hI.1.1
  show V _ _ _ _ _ _ _ _ [(0, rf G 0), (1, .int x)] [] _ _ _ _ _
  refine V_aload_n 1 0 rfl _ rfl rfl dX10_row_0 rfl ?_
  refine V_iload_n 2 1 rfl rfl dX10_row_1 rfl ?_
  refine V_aload_n 3 0 rfl _ rfl rfl dX10_row_2 rfl ?_
  refine V_getR 6 0 10 1 3 (hRS 0 1 (by decide)) flX10_19 rfl rfl rfl (by decide) dX10_row_3 rfl ?_
  refine V_getR 9 3 7 0 c hR3c flX10_85 rfl rfl rfl (by decide) dX10_row_6 rfl ?_
  refine V_getI 12 c 2 8 (nI (cM K)) hC.2.2.1 flX10_127 rfl (ly_c hc).1 rfl (by omega) dX10_row_9 rfl ?_
  refine V_callV (K' := 1) (S' := 6) 15 0 10 2 [.int x, .int (nI (cM K))] mkX10_needOneOf lkX10_187 (by decide) rfl rfl (by decide) rfl (Nat.le_of_ble_eq_true rfl) (Nat.le_of_ble_eq_true rfl) (Nat.le_of_ble_eq_true rfl) (Nat.le_of_ble_eq_true rfl) rfl rfl dX10_row_12 rfl (c_X10_needOneOf (c := cM K) (by omega) (fun i12 => ?_) (fun i12 => by rw [ckN_n (by omega) i12] at hq; exact hq _ rfl))
  refine Kq_v (k' := 1) (sl' := 6) rfl rfl ?_
  rw [ckN_y (by omega) i12] at hq
  obtain ⟨m, hm, rfl⟩ := i12
  refine V_aload_n 16 0 rfl _ rfl rfl dX10_row_15 rfl ?_
  refine V_getR 19 0 10 1 3 (hRS 0 1 (by decide)) flX10_19 rfl rfl rfl (by decide) dX10_row_16 rfl ?_
  refine V_getR 22 3 7 0 c hR3c flX10_85 rfl rfl rfl (by decide) dX10_row_19 rfl ?_
  refine V_iload_n 23 1 rfl rfl dX10_row_22 rfl ?_
  rw [nI_clamp (show m < 2 ^ 31 by omega)] at hq
  refine V_callV (K' := 0) (S' := 0) 26 c 2 1 [.int (nI m)] mkX2_longestRow lkX10_337 (by decide) rfl (ly_c hc).1 (by omega) rfl (Nat.le_of_ble_eq_true rfl) (Nat.le_of_ble_eq_true rfl) (Nat.le_of_ble_eq_true rfl) (Nat.le_of_ble_eq_true rfl) rfl rfl dX10_row_23 rfl (c_X2_longestRow hRK hc hC hW hm ?_)
  refine Kq_i (k' := 1) (sl' := 6) rfl rfl ?_
  refine V_ret_i rfl rfl (Nat.le_of_ble_eq_true rfl) (fun h => absurd h (by decide)) (Nat.le_of_ble_eq_true rfl) (hq I FrQ.rf) dX10_row_26
set_option maxHeartbeats 8000000 in
theorem c_X10_best {G : Gx} {d : Nat} {I : FI} {R : FR} {J : FJ} {Q : Po} {c l b : Nat} {K : CO} {f : DV → Int32} {D : DV} (hX : RC I R c l b K f D) {x : Int32}  (hq : Ho I R J Q (ckW x 0 1 (.inl (beF (bstF D 6) x.toNatClampNeg)))) : Cc G mX10_best (d + 60) 8 48 [rf G 0, .int x] 103 I R J Q := by
  obtain ⟨hRS, hc, hl, hb, hC, hW, hD, hI, hL⟩ := hX
  have hRK := hRS.K
  have hR3c : R 3 0 = some c := hRS 3 0 (by decide)
  have hR3l : R 3 1 = some l := hRS 3 1 (by decide)
  have hR32 : R 3 2 = some 16 := hRS 3 2 (by decide)
  have hR33 : R 3 3 = some 17 := hRS 3 3 (by decide)
  have h8 := hW.1
  have hg6 := hW.2.1
  have h6 := hW.2.2.1
  have hWD := hI.1
  have hFl := hI.1.1
  show V _ _ _ _ _ _ _ _ [(0, rf G 0), (1, .int x)] [] _ _ _ _ _
  refine V_aload_n 1 0 rfl _ rfl rfl dX10_best_0 rfl ?_
  refine V_iload_n 2 1 rfl rfl dX10_best_1 rfl ?_
  refine V_iconst 3 (0) rfl dX10_best_2 rfl ?_
  refine V_iconst 4 (1) rfl dX10_best_3 rfl ?_
  refine V_callV (K' := 1) (S' := 6) 7 0 10 3 [.int x, .int 0, .int 1] mkX10_needWithin lkX10_158 (by decide) rfl rfl (by decide) rfl (Nat.le_of_ble_eq_true rfl) (Nat.le_of_ble_eq_true rfl) (Nat.le_of_ble_eq_true rfl) (Nat.le_of_ble_eq_true rfl) rfl rfl dX10_best_4 rfl (c_X10_needWithin (fun a4 b4 => ?_) (fun a4 => by rw [ckW_n a4] at hq; exact hq _ rfl))
  refine Kq_v (k' := 1) (sl' := 6) rfl rfl ?_
  rw [ckW_y a4 b4] at hq
  obtain ⟨j, hj, rfl⟩ := in_nI (n := 1) (by decide) a4 b4
  refine V_aload_n 8 0 rfl _ rfl rfl dX10_best_7 rfl ?_
  refine V_getR 11 0 10 2 18 (hRS 0 2 (by decide)) flX10_26 rfl rfl rfl (by decide) dX10_best_8 rfl ?_
  rw [nI_clamp (show j < 2 ^ 31 by omega)] at hq
  refine V_callV (K' := 0) (S' := 0) 14 18 3 0 [] mkX3_mostLander lkX10_331 (by decide) rfl rfl (by decide) rfl (Nat.le_of_ble_eq_true rfl) (Nat.le_of_ble_eq_true rfl) (Nat.le_of_ble_eq_true rfl) (Nat.le_of_ble_eq_true rfl) rfl rfl dX10_best_11 rfl (c_X3_mostLander_18 hRK hD ?_)
  refine Kq_i (k' := 1) (sl' := 6) rfl rfl ?_
  refine V_istore_n 15 [(2, .int ((bstF D 6).1)), (0, rf G 0), (1, .int (nI j))] (by decide) rfl rfl dX10_best_14 rfl ?_
  rcases bstF_is D 6 with ⟨e1, e2⟩ | ⟨q, hq6, e1, e2, -⟩
  · rcases (show j = 0 ∨ j = 1 by omega) with rfl | rfl
    · rw [show beF (bstF D 6) 0 = -1 from by unfold beF; rw [if_pos (Or.inr e1), e1]] at hq
      rw [e1]
      show V _ _ _ _ _ _ _ _ [(2, .int (-1)), (0, rf G 0), (1, .int 0)] [] _ _ _ _ _
      refine V_iload_n 16 0 rfl rfl dX10_best_15 rfl ?_
      refine V_iconst 17 (-1) rfl dX10_best_16 rfl ?_
      refine V_icmp_eq 24 20 rfl dX10_best_17 rfl (fun c17 => ?_) (fun c17 => absurd rfl c17)
      refine V_iload_n 25 0 rfl rfl dX10_best_24 rfl ?_
      refine V_goto 37 rfl dX10_best_25 ?_
      refine V_ret_i rfl rfl (Nat.le_of_ble_eq_true rfl) (fun h => absurd h (by decide)) (Nat.le_of_ble_eq_true rfl) (hq I FrQ.rf) dX10_best_37
    · rw [show beF (bstF D 6) 1 = -1 from by unfold beF; rw [if_pos (Or.inr e1), e1]] at hq
      rw [e1]
      show V _ _ _ _ _ _ _ _ [(2, .int (-1)), (0, rf G 0), (1, .int 1)] [] _ _ _ _ _
      refine V_iload_n 16 0 rfl rfl dX10_best_15 rfl ?_
      refine V_iconst 17 (-1) rfl dX10_best_16 rfl ?_
      refine V_icmp_eq 24 20 rfl dX10_best_17 rfl (fun c17 => ?_) (fun c17 => absurd rfl c17)
      refine V_iload_n 25 0 rfl rfl dX10_best_24 rfl ?_
      refine V_goto 37 rfl dX10_best_25 ?_
      refine V_ret_i rfl rfl (Nat.le_of_ble_eq_true rfl) (fun h => absurd h (by decide)) (Nat.le_of_ble_eq_true rfl) (hq I FrQ.rf) dX10_best_37
  · rcases (show j = 0 ∨ j = 1 by omega) with rfl | rfl
    · rw [show beF (bstF D 6) 0 = nI q from by unfold beF; rw [if_pos (Or.inl rfl), e1]] at hq
      rw [e1]
      show V _ _ _ _ _ _ _ _ [(2, .int (nI q)), (0, rf G 0), (1, .int 0)] [] _ _ _ _ _
      refine V_iload_n 16 0 rfl rfl dX10_best_15 rfl ?_
      refine V_iconst 17 (-1) rfl dX10_best_16 rfl ?_
      refine V_icmp_eq 24 20 rfl dX10_best_17 rfl (fun c17 => absurd c17 (nI_ne (by omega))) (fun c17 => ?_)
      refine V_iload_n 21 2 rfl rfl dX10_best_20 rfl ?_
      refine V_if_ne 28 24 rfl dX10_best_21 rfl (fun c21 => absurd c21 (by decide)) (fun c21 => ?_)
      refine V_iload_n 25 0 rfl rfl dX10_best_24 rfl ?_
      refine V_goto 37 rfl dX10_best_25 ?_
      refine V_ret_i rfl rfl (Nat.le_of_ble_eq_true rfl) (fun h => absurd h (by decide)) (Nat.le_of_ble_eq_true rfl) (hq I FrQ.rf) dX10_best_37
    · rw [show beF (bstF D 6) 1 = D (24 + q) from by unfold beF; rw [if_neg (fun h => h.elim (by decide) (fun h => nI_ne (show q < 2 ^ 31 by omega) (e1 ▸ h))), e2]] at hq
      rw [e1]
      show V _ _ _ _ _ _ _ _ [(2, .int (nI q)), (0, rf G 0), (1, .int 1)] [] _ _ _ _ _
      refine V_iload_n 16 0 rfl rfl dX10_best_15 rfl ?_
      refine V_iconst 17 (-1) rfl dX10_best_16 rfl ?_
      refine V_icmp_eq 24 20 rfl dX10_best_17 rfl (fun c17 => absurd c17 (nI_ne (by omega))) (fun c17 => ?_)
      refine V_iload_n 21 2 rfl rfl dX10_best_20 rfl ?_
      refine V_if_ne 28 24 rfl dX10_best_21 rfl (fun c21 => ?_) (fun c21 => absurd c21 (by decide))
      refine V_aload_n 29 1 rfl _ rfl rfl dX10_best_28 rfl ?_
      refine V_getR 32 0 10 2 18 (hRS 0 2 (by decide)) flX10_26 rfl rfl rfl (by decide) dX10_best_29 rfl ?_
      refine V_getR 35 18 3 4 23 (hRK 18 4 (by decide) (by decide) (by decide)) flX10_231 rfl rfl rfl (by decide) dX10_best_32 rfl ?_
      refine V_iload_n 36 0 rfl rfl dX10_best_35 rfl ?_
      refine V_ialdN 37 23 6 q (D (24 + q)) (hD.2.2.2.2.1 q (by omega)) (by omega) (by decide) rfl (by decide) dX10_best_36 rfl ?_
      refine V_ret_i rfl rfl (Nat.le_of_ble_eq_true rfl) (fun h => absurd h (by decide)) (Nat.le_of_ble_eq_true rfl) (hq I FrQ.rf) dX10_best_37
theorem half_le : ∀ v, v ≤ 99 → ¬ nI v < nI v / 2 := by decide +kernel
theorem half_lt : ∀ v, v ≤ 99 → ¬ v = 0 → nI v / 2 < nI v := by decide +kernel
theorem tw_n {v : Nat} (h : v ≤ 99) (h0 : ¬ v = 0) : ¬ nI v = 0 := nI_ne0 (by omega) (by omega)
def haF (a b : Nat) (v w : Int32) : Int32 := if a = b then (if a = 0 then v else w) else (if a = 0 then w else v / 2)
theorem c_X10_has_00 {G : Gx} {d : Nat} {I : FI} {R : FR} {J : FJ} {Q : Po} {v w : Int32} (hq : Q (.inl (some (.int (haF 0 0 v w)))) 103 I R J) : Cc G mX10_has d 0 0 [.int 0, .int 0, .int v, .int w] 103 I R J Q := by
  show V _ _ _ _ _ _ _ _ [(0, .int 0), (1, .int 0), (2, .int v), (3, .int w)] [] _ _ _ _ _
  refine V_iload_n 1 0 rfl rfl dX10_has_0 rfl ?_
  refine V_iload_n 2 1 rfl rfl dX10_has_1 rfl ?_
  refine V_icmp_ne 15 5 rfl dX10_has_2 rfl (fun c2 => absurd c2 (by decide)) (fun c2 => ?_)
  refine V_iload_n 6 0 rfl rfl dX10_has_5 rfl ?_
  refine V_if_ne 13 9 rfl dX10_has_6 rfl (fun c6 => absurd c6 (by decide)) (fun c6 => ?_)
  refine V_iload_n 10 2 rfl rfl dX10_has_9 rfl ?_
  refine V_goto 14 rfl dX10_has_10 ?_
  refine V_ret_i rfl rfl (Nat.le_of_ble_eq_true rfl) (fun h => absurd h (by decide)) (Nat.le_of_ble_eq_true rfl) (hq) dX10_has_14
theorem c_X11_hasBy_00 {G : Gx} {d : Nat} {I : FI} {R : FR} {J : FJ} {Q : Po} {v w : Int32} (hq : Q (.inl (some (.int (haF 0 0 v w)))) 103 I R J) : Cc G mX11_hasBy d 0 0 [.int 0, .int 0, .int v, .int w] 103 I R J Q := by
  show V _ _ _ _ _ _ _ _ [(0, .int 0), (1, .int 0), (2, .int v), (3, .int w)] [] _ _ _ _ _
  refine V_iload_n 1 0 rfl rfl dX11_hasBy_0 rfl ?_
  refine V_iload_n 2 1 rfl rfl dX11_hasBy_1 rfl ?_
  refine V_icmp_ne 17 5 rfl dX11_hasBy_2 rfl (fun c2 => absurd c2 (by decide)) (fun c2 => ?_)
  refine V_iload_n 6 0 rfl rfl dX11_hasBy_5 rfl ?_
  refine V_if_ne 13 9 rfl dX11_hasBy_6 rfl (fun c6 => absurd c6 (by decide)) (fun c6 => ?_)
  refine V_iload_n 10 2 rfl rfl dX11_hasBy_9 rfl ?_
  refine V_goto 28 rfl dX11_hasBy_10 ?_
  refine V_ret_i rfl rfl (Nat.le_of_ble_eq_true rfl) (fun h => absurd h (by decide)) (Nat.le_of_ble_eq_true rfl) (hq) dX11_hasBy_28
theorem c_X10_has_01 {G : Gx} {d : Nat} {I : FI} {R : FR} {J : FJ} {Q : Po} {v w : Int32} (hq : Q (.inl (some (.int (haF 0 1 v w)))) 103 I R J) : Cc G mX10_has d 0 0 [.int 0, .int 1, .int v, .int w] 103 I R J Q := by
  show V _ _ _ _ _ _ _ _ [(0, .int 0), (1, .int 1), (2, .int v), (3, .int w)] [] _ _ _ _ _
  refine V_iload_n 1 0 rfl rfl dX10_has_0 rfl ?_
  refine V_iload_n 2 1 rfl rfl dX10_has_1 rfl ?_
  refine V_icmp_ne 15 5 rfl dX10_has_2 rfl (fun c2 => ?_) (fun c2 => absurd c2 (by decide))
  refine V_iload_n 16 0 rfl rfl dX10_has_15 rfl ?_
  refine V_if_ne 23 19 rfl dX10_has_16 rfl (fun c16 => absurd c16 (by decide)) (fun c16 => ?_)
  refine V_iload_n 20 3 rfl rfl dX10_has_19 rfl ?_
  refine V_goto 26 rfl dX10_has_20 ?_
  refine V_ret_i rfl rfl (Nat.le_of_ble_eq_true rfl) (fun h => absurd h (by decide)) (Nat.le_of_ble_eq_true rfl) (hq) dX10_has_26
theorem c_X11_hasBy_01 {G : Gx} {d : Nat} {I : FI} {R : FR} {J : FJ} {Q : Po} {v w : Int32} (hq : Q (.inl (some (.int (haF 0 1 v w)))) 103 I R J) : Cc G mX11_hasBy d 0 0 [.int 0, .int 1, .int v, .int w] 103 I R J Q := by
  show V _ _ _ _ _ _ _ _ [(0, .int 0), (1, .int 1), (2, .int v), (3, .int w)] [] _ _ _ _ _
  refine V_iload_n 1 0 rfl rfl dX11_hasBy_0 rfl ?_
  refine V_iload_n 2 1 rfl rfl dX11_hasBy_1 rfl ?_
  refine V_icmp_ne 17 5 rfl dX11_hasBy_2 rfl (fun c2 => ?_) (fun c2 => absurd c2 (by decide))
  refine V_iload_n 18 0 rfl rfl dX11_hasBy_17 rfl ?_
  refine V_if_ne 25 21 rfl dX11_hasBy_18 rfl (fun c18 => absurd c18 (by decide)) (fun c18 => ?_)
  refine V_iload_n 22 3 rfl rfl dX11_hasBy_21 rfl ?_
  refine V_goto 28 rfl dX11_hasBy_22 ?_
  refine V_ret_i rfl rfl (Nat.le_of_ble_eq_true rfl) (fun h => absurd h (by decide)) (Nat.le_of_ble_eq_true rfl) (hq) dX11_hasBy_28
theorem c_X10_has_10 {G : Gx} {d : Nat} {I : FI} {R : FR} {J : FJ} {Q : Po} {v w : Int32} (hq : Q (.inl (some (.int (haF 1 0 v w)))) 103 I R J) : Cc G mX10_has d 0 0 [.int 1, .int 0, .int v, .int w] 103 I R J Q := by
  show V _ _ _ _ _ _ _ _ [(0, .int 1), (1, .int 0), (2, .int v), (3, .int w)] [] _ _ _ _ _
  refine V_iload_n 1 0 rfl rfl dX10_has_0 rfl ?_
  refine V_iload_n 2 1 rfl rfl dX10_has_1 rfl ?_
  refine V_icmp_ne 15 5 rfl dX10_has_2 rfl (fun c2 => ?_) (fun c2 => absurd c2 (by decide))
  refine V_iload_n 16 0 rfl rfl dX10_has_15 rfl ?_
  refine V_if_ne 23 19 rfl dX10_has_16 rfl (fun c16 => ?_) (fun c16 => absurd c16 (by decide))
  refine V_iload_n 24 2 rfl rfl dX10_has_23 rfl ?_
  refine V_iconst 25 (2) rfl dX10_has_24 rfl ?_
  refine V_idiv 26 (by decide) dX10_has_25 rfl ?_
  refine V_ret_i rfl rfl (Nat.le_of_ble_eq_true rfl) (fun h => absurd h (by decide)) (Nat.le_of_ble_eq_true rfl) (hq) dX10_has_26
theorem c_X11_hasBy_10 {G : Gx} {d : Nat} {I : FI} {R : FR} {J : FJ} {Q : Po} {v w : Int32} (hq : Q (.inl (some (.int (haF 1 0 v w)))) 103 I R J) : Cc G mX11_hasBy d 0 0 [.int 1, .int 0, .int v, .int w] 103 I R J Q := by
  show V _ _ _ _ _ _ _ _ [(0, .int 1), (1, .int 0), (2, .int v), (3, .int w)] [] _ _ _ _ _
  refine V_iload_n 1 0 rfl rfl dX11_hasBy_0 rfl ?_
  refine V_iload_n 2 1 rfl rfl dX11_hasBy_1 rfl ?_
  refine V_icmp_ne 17 5 rfl dX11_hasBy_2 rfl (fun c2 => ?_) (fun c2 => absurd c2 (by decide))
  refine V_iload_n 18 0 rfl rfl dX11_hasBy_17 rfl ?_
  refine V_if_ne 25 21 rfl dX11_hasBy_18 rfl (fun c18 => ?_) (fun c18 => absurd c18 (by decide))
  refine V_iload_n 26 2 rfl rfl dX11_hasBy_25 rfl ?_
  refine V_iconst 27 (2) rfl dX11_hasBy_26 rfl ?_
  refine V_idiv 28 (by decide) dX11_hasBy_27 rfl ?_
  refine V_ret_i rfl rfl (Nat.le_of_ble_eq_true rfl) (fun h => absurd h (by decide)) (Nat.le_of_ble_eq_true rfl) (hq) dX11_hasBy_28
theorem c_X10_has_11 {G : Gx} {d : Nat} {I : FI} {R : FR} {J : FJ} {Q : Po} {v w : Int32} (hq : Q (.inl (some (.int (haF 1 1 v w)))) 103 I R J) : Cc G mX10_has d 0 0 [.int 1, .int 1, .int v, .int w] 103 I R J Q := by
  show V _ _ _ _ _ _ _ _ [(0, .int 1), (1, .int 1), (2, .int v), (3, .int w)] [] _ _ _ _ _
  refine V_iload_n 1 0 rfl rfl dX10_has_0 rfl ?_
  refine V_iload_n 2 1 rfl rfl dX10_has_1 rfl ?_
  refine V_icmp_ne 15 5 rfl dX10_has_2 rfl (fun c2 => absurd c2 (by decide)) (fun c2 => ?_)
  refine V_iload_n 6 0 rfl rfl dX10_has_5 rfl ?_
  refine V_if_ne 13 9 rfl dX10_has_6 rfl (fun c6 => ?_) (fun c6 => absurd c6 (by decide))
  refine V_iload_n 14 3 rfl rfl dX10_has_13 rfl ?_
  refine V_ret_i rfl rfl (Nat.le_of_ble_eq_true rfl) (fun h => absurd h (by decide)) (Nat.le_of_ble_eq_true rfl) (hq) dX10_has_14
theorem c_X11_hasBy_11 {G : Gx} {d : Nat} {I : FI} {R : FR} {J : FJ} {Q : Po} {v w : Int32} (hq : Q (.inl (some (.int (haF 1 1 v w)))) 103 I R J) : Cc G mX11_hasBy d 0 0 [.int 1, .int 1, .int v, .int w] 103 I R J Q := by
  show V _ _ _ _ _ _ _ _ [(0, .int 1), (1, .int 1), (2, .int v), (3, .int w)] [] _ _ _ _ _
  refine V_iload_n 1 0 rfl rfl dX11_hasBy_0 rfl ?_
  refine V_iload_n 2 1 rfl rfl dX11_hasBy_1 rfl ?_
  refine V_icmp_ne 17 5 rfl dX11_hasBy_2 rfl (fun c2 => absurd c2 (by decide)) (fun c2 => ?_)
  refine V_iload_n 6 0 rfl rfl dX11_hasBy_5 rfl ?_
  refine V_if_ne 13 9 rfl dX11_hasBy_6 rfl (fun c6 => ?_) (fun c6 => absurd c6 (by decide))
  refine V_iload_n 14 3 rfl rfl dX11_hasBy_13 rfl ?_
  refine V_goto 28 rfl dX11_hasBy_14 ?_
  refine V_ret_i rfl rfl (Nat.le_of_ble_eq_true rfl) (fun h => absurd h (by decide)) (Nat.le_of_ble_eq_true rfl) (hq) dX11_hasBy_28
set_option maxHeartbeats 8000000 in
theorem c_X10_two {G : Gx} {d : Nat} {I : FI} {R : FR} {J : FJ} {Q : Po} {c l b : Nat} {K : CO} {f : DV → Int32} {D : DV} (hX : RC I R c l b K f D) {x y z : Int32}  (hq : Ho I R J Q (ckW x 0 99 (ckW y 0 99 (ckW z 0 2 (.inl (twF x z.toNatClampNeg)))))) : Cc G mX10_two (d + 60) 8 48 [rf G 0, .int x, .int y, .int z] 103 I R J Q := by
  obtain ⟨hRS, hc, hl, hb, hC, hW, hD, hI, hL⟩ := hX
  have hRK := hRS.K
  have hR3c : R 3 0 = some c := hRS 3 0 (by decide)
  have hR3l : R 3 1 = some l := hRS 3 1 (by decide)
  have hR32 : R 3 2 = some 16 := hRS 3 2 (by decide)
  have hR33 : R 3 3 = some 17 := hRS 3 3 (by decide)
  have h8 := hW.1
  have hg6 := hW.2.1
  have h6 := hW.2.2.1
  have hWD := hI.1
  have hFl := hI.1.1
  show V _ _ _ _ _ _ _ _ [(0, rf G 0), (1, .int x), (2, .int y), (3, .int z)] [] _ _ _ _ _
  refine V_aload_n 1 0 rfl _ rfl rfl dX10_two_0 rfl ?_
  refine V_iload_n 2 1 rfl rfl dX10_two_1 rfl ?_
  refine V_iconst 3 (0) rfl dX10_two_2 rfl ?_
  refine V_bipush 5 (99) rfl dX10_two_3 rfl ?_
  refine V_callV (K' := 1) (S' := 6) 8 0 10 3 [.int x, .int 0, .int 99] mkX10_needWithin lkX10_158 (by decide) rfl rfl (by decide) rfl (Nat.le_of_ble_eq_true rfl) (Nat.le_of_ble_eq_true rfl) (Nat.le_of_ble_eq_true rfl) (Nat.le_of_ble_eq_true rfl) rfl rfl dX10_two_5 rfl (c_X10_needWithin (fun a5 b5 => ?_) (fun a5 => by rw [ckW_n a5] at hq; exact hq _ rfl))
  refine Kq_v (k' := 1) (sl' := 6) rfl rfl ?_
  rw [ckW_y a5 b5] at hq
  obtain ⟨v, hv, rfl⟩ := in_nI (n := 99) (by decide) a5 b5
  refine V_aload_n 9 0 rfl _ rfl rfl dX10_two_8 rfl ?_
  refine V_iload_n 10 2 rfl rfl dX10_two_9 rfl ?_
  refine V_iconst 11 (0) rfl dX10_two_10 rfl ?_
  refine V_bipush 13 (99) rfl dX10_two_11 rfl ?_
  refine V_callV (K' := 1) (S' := 6) 16 0 10 3 [.int y, .int 0, .int 99] mkX10_needWithin lkX10_158 (by decide) rfl rfl (by decide) rfl (Nat.le_of_ble_eq_true rfl) (Nat.le_of_ble_eq_true rfl) (Nat.le_of_ble_eq_true rfl) (Nat.le_of_ble_eq_true rfl) rfl rfl dX10_two_13 rfl (c_X10_needWithin (fun a13 b13 => ?_) (fun a13 => by rw [ckW_n a13] at hq; exact hq _ rfl))
  refine Kq_v (k' := 2) (sl' := 12) rfl rfl ?_
  rw [ckW_y a13 b13] at hq
  refine V_aload_n 17 0 rfl _ rfl rfl dX10_two_16 rfl ?_
  refine V_iload_n 18 3 rfl rfl dX10_two_17 rfl ?_
  refine V_iconst 19 (0) rfl dX10_two_18 rfl ?_
  refine V_iconst 20 (2) rfl dX10_two_19 rfl ?_
  refine V_callV (K' := 1) (S' := 6) 23 0 10 3 [.int z, .int 0, .int 2] mkX10_needWithin lkX10_158 (by decide) rfl rfl (by decide) rfl (Nat.le_of_ble_eq_true rfl) (Nat.le_of_ble_eq_true rfl) (Nat.le_of_ble_eq_true rfl) (Nat.le_of_ble_eq_true rfl) rfl rfl dX10_two_20 rfl (c_X10_needWithin (fun a20 b20 => ?_) (fun a20 => by rw [ckW_n a20] at hq; exact hq _ rfl))
  refine Kq_v (k' := 3) (sl' := 18) rfl rfl ?_
  rw [ckW_y a20 b20] at hq
  obtain ⟨j, hj, rfl⟩ := in_nI (n := 2) (by decide) a20 b20
  rw [nI_clamp (show j < 2 ^ 31 by omega)] at hq
  rcases (show j = 0 ∨ j = 1 ∨ j = 2 by omega) with rfl | rfl | rfl
  · by_cases v0 : v = 0
    · rw [show twF (nI v) 0 = 4 from by show (if _ then _ else _) = _; rw [if_pos (by rw [v0]; rfl)]] at hq
      show V _ _ _ _ _ _ _ _ [(0, rf G 0), (1, .int (nI v)), (2, .int y), (3, .int 0)] [] _ _ _ _ _
      refine V_iconst 24 (0) rfl dX10_two_23 rfl ?_
      refine V_istore 26 [(4, .int 0), (0, rf G 0), (1, .int (nI v)), (2, .int y), (3, .int 0)] (by decide) rfl dX10_two_24 rfl ?_
      refine V_iconst 27 (-1) rfl dX10_two_26 rfl ?_
      refine V_istore 29 [(5, .int (-1)), (4, .int 0), (0, rf G 0), (1, .int (nI v)), (2, .int y), (3, .int 0)] (by decide) rfl dX10_two_27 rfl ?_
      refine V_iconst 30 (0) rfl dX10_two_29 rfl ?_
      refine V_istore 32 [(6, .int 0), (5, .int (-1)), (4, .int 0), (0, rf G 0), (1, .int (nI v)), (2, .int y), (3, .int 0)] (by decide) rfl dX10_two_30 rfl ?_
      refine V_iconst 33 (0) rfl dX10_two_32 rfl ?_
      refine V_istore 35 [(7, .int 0), (6, .int 0), (5, .int (-1)), (4, .int 0), (0, rf G 0), (1, .int (nI v)), (2, .int y), (3, .int 0)] (by decide) rfl dX10_two_33 rfl ?_
      refine V_iload 37 0 rfl dX10_two_35 rfl ?_
      refine V_iconst 38 (4) rfl dX10_two_37 rfl ?_
      refine V_icmp_ge 145 41 rfl dX10_two_38 rfl (fun c38 => absurd c38 (by decide)) (fun c38 => ?_)
      refine V_iload 43 0 rfl dX10_two_41 rfl ?_
      refine V_iconst 44 (2) rfl dX10_two_43 rfl ?_
      refine V_idiv 45 (by decide) dX10_two_44 rfl ?_
      refine V_rw (show _ = (0 : Int32) from by decide) ?_
      refine V_istore 47 [(8, .int 0), (7, .int 0), (6, .int 0), (5, .int (-1)), (4, .int 0), (0, rf G 0), (1, .int (nI v)), (2, .int y), (3, .int 0)] (by decide) rfl dX10_two_45 rfl ?_
      refine V_iload 49 1 rfl dX10_two_47 rfl ?_
      refine V_iconst 50 (2) rfl dX10_two_49 rfl ?_
      refine V_irem 51 (by decide) dX10_two_50 rfl ?_
      refine V_rw (show _ = (0 : Int32) from by decide) ?_
      refine V_istore 53 [(9, .int 0), (8, .int 0), (7, .int 0), (6, .int 0), (5, .int (-1)), (4, .int 0), (0, rf G 0), (1, .int (nI v)), (2, .int y), (3, .int 0)] (by decide) rfl dX10_two_51 rfl ?_
      refine V_iload 55 1 rfl dX10_two_53 rfl ?_
      refine V_iload 57 0 rfl dX10_two_55 rfl ?_
      refine V_iload_n 58 7 rfl rfl dX10_two_57 rfl ?_
      refine V_iload_n 59 8 rfl rfl dX10_two_58 rfl ?_
      refine V_callS (K' := 0) (S' := 0) 62 4 [.int 0, .int 0, .int (nI v), .int y] mkX10_has lkX10_319 rfl (Nat.le_of_ble_eq_true rfl) (Nat.le_of_ble_eq_true rfl) (Nat.le_of_ble_eq_true rfl) (Nat.le_of_ble_eq_true rfl) rfl rfl dX10_two_59 rfl (c_X10_has_00 ?_)
      rw [show haF 0 0 (nI v) y = nI v from rfl]
      refine Kq_i (k' := 3) (sl' := 18) rfl rfl ?_
      refine V_iconst 63 (1) rfl dX10_two_62 rfl ?_
      refine V_iload 65 1 rfl dX10_two_63 rfl ?_
      refine V_isub 66 dX10_two_65 rfl ?_
      refine V_rw (show _ = (1 : Int32) from by decide) ?_
      refine V_iload 68 0 rfl dX10_two_66 rfl ?_
      refine V_iload_n 69 7 rfl rfl dX10_two_68 rfl ?_
      refine V_iload_n 70 8 rfl rfl dX10_two_69 rfl ?_
      refine V_callS (K' := 0) (S' := 0) 73 4 [.int 1, .int 0, .int (nI v), .int y] mkX10_has lkX10_319 rfl (Nat.le_of_ble_eq_true rfl) (Nat.le_of_ble_eq_true rfl) (Nat.le_of_ble_eq_true rfl) (Nat.le_of_ble_eq_true rfl) rfl rfl dX10_two_70 rfl (c_X10_has_10 ?_)
      rw [show haF 1 0 (nI v) y = nI v / 2 from rfl]
      refine Kq_i (k' := 3) (sl' := 18) rfl rfl ?_
      refine V_icmp_lt 139 76 rfl dX10_two_73 rfl (fun c73 => absurd c73 (half_le v hv)) (fun c73 => ?_)
      refine V_iload 78 0 rfl dX10_two_76 rfl ?_
      refine V_iload 80 1 rfl dX10_two_78 rfl ?_
      refine V_iload_n 81 7 rfl rfl dX10_two_80 rfl ?_
      refine V_iload_n 82 8 rfl rfl dX10_two_81 rfl ?_
      refine V_callS (K' := 0) (S' := 0) 85 4 [.int 0, .int 0, .int (nI v), .int y] mkX10_has lkX10_319 rfl (Nat.le_of_ble_eq_true rfl) (Nat.le_of_ble_eq_true rfl) (Nat.le_of_ble_eq_true rfl) (Nat.le_of_ble_eq_true rfl) rfl rfl dX10_two_82 rfl (c_X10_has_00 ?_)
      rw [show haF 0 0 (nI v) y = nI v from rfl]
      refine Kq_i (k' := 3) (sl' := 18) rfl rfl ?_
      refine V_iconst 86 (1) rfl dX10_two_85 rfl ?_
      refine V_iload 88 0 rfl dX10_two_86 rfl ?_
      refine V_isub 89 dX10_two_88 rfl ?_
      refine V_rw (show _ = (1 : Int32) from by decide) ?_
      refine V_iload 91 1 rfl dX10_two_89 rfl ?_
      refine V_iload_n 92 7 rfl rfl dX10_two_91 rfl ?_
      refine V_iload_n 93 8 rfl rfl dX10_two_92 rfl ?_
      refine V_callS (K' := 0) (S' := 0) 96 4 [.int 1, .int 0, .int (nI v), .int y] mkX10_has lkX10_319 rfl (Nat.le_of_ble_eq_true rfl) (Nat.le_of_ble_eq_true rfl) (Nat.le_of_ble_eq_true rfl) (Nat.le_of_ble_eq_true rfl) rfl rfl dX10_two_93 rfl (c_X10_has_10 ?_)
      rw [show haF 1 0 (nI v) y = nI v / 2 from rfl]
      refine Kq_i (k' := 3) (sl' := 18) rfl rfl ?_
      refine V_icmp_lt 139 99 rfl dX10_two_96 rfl (fun c96 => absurd c96 (half_le v hv)) (fun c96 => ?_)
      refine V_iinc 102 5 rfl 1 [(4, .int 1), (9, .int 0), (8, .int 0), (7, .int 0), (6, .int 0), (5, .int (-1)), (0, rf G 0), (1, .int (nI v)), (2, .int y), (3, .int 0)] (by decide) (by decide) rfl dX10_two_99 rfl ?_
      refine V_iload 104 5 rfl dX10_two_102 rfl ?_
      refine V_iconst 105 (-1) rfl dX10_two_104 rfl ?_
      refine V_icmp_ne 139 108 rfl dX10_two_105 rfl (fun c105 => absurd c105 (by decide)) (fun c105 => ?_)
      refine V_bipush 110 (10) rfl dX10_two_108 rfl ?_
      refine V_iload 112 2 rfl dX10_two_110 rfl ?_
      refine V_imul 113 dX10_two_112 rfl ?_
      refine V_rw (show _ = (0 : Int32) from by decide) ?_
      refine V_iload 115 1 rfl dX10_two_113 rfl ?_
      refine V_iadd 116 dX10_two_115 rfl ?_
      refine V_rw (show _ = (0 : Int32) from by decide) ?_
      refine V_istore 118 [(5, .int 0), (4, .int 1), (9, .int 0), (8, .int 0), (7, .int 0), (6, .int 0), (0, rf G 0), (1, .int (nI v)), (2, .int y), (3, .int 0)] (by decide) rfl dX10_two_116 rfl ?_
      refine V_iload 120 3 rfl dX10_two_118 rfl ?_
      refine V_iload 122 2 rfl dX10_two_120 rfl ?_
      refine V_iload_n 123 7 rfl rfl dX10_two_122 rfl ?_
      refine V_iload_n 124 8 rfl rfl dX10_two_123 rfl ?_
      refine V_callS (K' := 0) (S' := 0) 127 4 [.int 0, .int 0, .int (nI v), .int y] mkX10_has lkX10_319 rfl (Nat.le_of_ble_eq_true rfl) (Nat.le_of_ble_eq_true rfl) (Nat.le_of_ble_eq_true rfl) (Nat.le_of_ble_eq_true rfl) rfl rfl dX10_two_124 rfl (c_X10_has_00 ?_)
      rw [show haF 0 0 (nI v) y = nI v from rfl]
      refine Kq_i (k' := 3) (sl' := 18) rfl rfl ?_
      refine V_iload 129 2 rfl dX10_two_127 rfl ?_
      refine V_iload 131 3 rfl dX10_two_129 rfl ?_
      refine V_iload_n 132 7 rfl rfl dX10_two_131 rfl ?_
      refine V_iload_n 133 8 rfl rfl dX10_two_132 rfl ?_
      refine V_callS (K' := 0) (S' := 0) 136 4 [.int 0, .int 0, .int (nI v), .int y] mkX10_has lkX10_319 rfl (Nat.le_of_ble_eq_true rfl) (Nat.le_of_ble_eq_true rfl) (Nat.le_of_ble_eq_true rfl) (Nat.le_of_ble_eq_true rfl) rfl rfl dX10_two_133 rfl (c_X10_has_00 ?_)
      rw [show haF 0 0 (nI v) y = nI v from rfl]
      refine Kq_i (k' := 3) (sl' := 18) rfl rfl ?_
      refine V_iadd 137 dX10_two_136 rfl ?_
      refine V_istore 139 [(6, .int ((nI v) + (nI v))), (5, .int 0), (4, .int 1), (9, .int 0), (8, .int 0), (7, .int 0), (0, rf G 0), (1, .int (nI v)), (2, .int y), (3, .int 0)] (by decide) rfl dX10_two_137 rfl ?_
      refine V_iinc 142 5 rfl 1 [(7, .int 1), (6, .int ((nI v) + (nI v))), (5, .int 0), (4, .int 1), (9, .int 0), (8, .int 0), (0, rf G 0), (1, .int (nI v)), (2, .int y), (3, .int 0)] (by decide) (by decide) rfl dX10_two_139 rfl ?_
      refine V_goto 35 rfl dX10_two_142 ?_
      refine V_iload 37 0 rfl dX10_two_35 rfl ?_
      refine V_iconst 38 (4) rfl dX10_two_37 rfl ?_
      refine V_icmp_ge 145 41 rfl dX10_two_38 rfl (fun c38 => absurd c38 (by decide)) (fun c38 => ?_)
      refine V_iload 43 0 rfl dX10_two_41 rfl ?_
      refine V_iconst 44 (2) rfl dX10_two_43 rfl ?_
      refine V_idiv 45 (by decide) dX10_two_44 rfl ?_
      refine V_rw (show _ = (0 : Int32) from by decide) ?_
      refine V_istore 47 [(8, .int 0), (7, .int 1), (6, .int ((nI v) + (nI v))), (5, .int 0), (4, .int 1), (9, .int 0), (0, rf G 0), (1, .int (nI v)), (2, .int y), (3, .int 0)] (by decide) rfl dX10_two_45 rfl ?_
      refine V_iload 49 1 rfl dX10_two_47 rfl ?_
      refine V_iconst 50 (2) rfl dX10_two_49 rfl ?_
      refine V_irem 51 (by decide) dX10_two_50 rfl ?_
      refine V_rw (show _ = (1 : Int32) from by decide) ?_
      refine V_istore 53 [(9, .int 1), (8, .int 0), (7, .int 1), (6, .int ((nI v) + (nI v))), (5, .int 0), (4, .int 1), (0, rf G 0), (1, .int (nI v)), (2, .int y), (3, .int 0)] (by decide) rfl dX10_two_51 rfl ?_
      refine V_iload 55 1 rfl dX10_two_53 rfl ?_
      refine V_iload 57 0 rfl dX10_two_55 rfl ?_
      refine V_iload_n 58 7 rfl rfl dX10_two_57 rfl ?_
      refine V_iload_n 59 8 rfl rfl dX10_two_58 rfl ?_
      refine V_callS (K' := 0) (S' := 0) 62 4 [.int 0, .int 1, .int (nI v), .int y] mkX10_has lkX10_319 rfl (Nat.le_of_ble_eq_true rfl) (Nat.le_of_ble_eq_true rfl) (Nat.le_of_ble_eq_true rfl) (Nat.le_of_ble_eq_true rfl) rfl rfl dX10_two_59 rfl (c_X10_has_01 ?_)
      rw [show haF 0 1 (nI v) y = y from rfl]
      refine Kq_i (k' := 3) (sl' := 18) rfl rfl ?_
      refine V_iconst 63 (1) rfl dX10_two_62 rfl ?_
      refine V_iload 65 1 rfl dX10_two_63 rfl ?_
      refine V_isub 66 dX10_two_65 rfl ?_
      refine V_rw (show _ = (1 : Int32) from by decide) ?_
      refine V_iload 68 0 rfl dX10_two_66 rfl ?_
      refine V_iload_n 69 7 rfl rfl dX10_two_68 rfl ?_
      refine V_iload_n 70 8 rfl rfl dX10_two_69 rfl ?_
      refine V_callS (K' := 0) (S' := 0) 73 4 [.int 1, .int 1, .int (nI v), .int y] mkX10_has lkX10_319 rfl (Nat.le_of_ble_eq_true rfl) (Nat.le_of_ble_eq_true rfl) (Nat.le_of_ble_eq_true rfl) (Nat.le_of_ble_eq_true rfl) rfl rfl dX10_two_70 rfl (c_X10_has_11 ?_)
      rw [show haF 1 1 (nI v) y = y from rfl]
      refine Kq_i (k' := 3) (sl' := 18) rfl rfl ?_
      refine V_icmp_lt 139 76 rfl dX10_two_73 rfl (fun c73 => absurd c73 (Int32.lt_irrefl)) (fun c73 => ?_)
      refine V_iload 78 0 rfl dX10_two_76 rfl ?_
      refine V_iload 80 1 rfl dX10_two_78 rfl ?_
      refine V_iload_n 81 7 rfl rfl dX10_two_80 rfl ?_
      refine V_iload_n 82 8 rfl rfl dX10_two_81 rfl ?_
      refine V_callS (K' := 0) (S' := 0) 85 4 [.int 1, .int 0, .int (nI v), .int y] mkX10_has lkX10_319 rfl (Nat.le_of_ble_eq_true rfl) (Nat.le_of_ble_eq_true rfl) (Nat.le_of_ble_eq_true rfl) (Nat.le_of_ble_eq_true rfl) rfl rfl dX10_two_82 rfl (c_X10_has_10 ?_)
      rw [show haF 1 0 (nI v) y = nI v / 2 from rfl]
      refine Kq_i (k' := 3) (sl' := 18) rfl rfl ?_
      refine V_iconst 86 (1) rfl dX10_two_85 rfl ?_
      refine V_iload 88 0 rfl dX10_two_86 rfl ?_
      refine V_isub 89 dX10_two_88 rfl ?_
      refine V_rw (show _ = (0 : Int32) from by decide) ?_
      refine V_iload 91 1 rfl dX10_two_89 rfl ?_
      refine V_iload_n 92 7 rfl rfl dX10_two_91 rfl ?_
      refine V_iload_n 93 8 rfl rfl dX10_two_92 rfl ?_
      refine V_callS (K' := 0) (S' := 0) 96 4 [.int 0, .int 0, .int (nI v), .int y] mkX10_has lkX10_319 rfl (Nat.le_of_ble_eq_true rfl) (Nat.le_of_ble_eq_true rfl) (Nat.le_of_ble_eq_true rfl) (Nat.le_of_ble_eq_true rfl) rfl rfl dX10_two_93 rfl (c_X10_has_00 ?_)
      rw [show haF 0 0 (nI v) y = nI v from rfl]
      refine Kq_i (k' := 3) (sl' := 18) rfl rfl ?_
      refine V_icmp_lt 139 99 rfl dX10_two_96 rfl (fun c96 => absurd c96 (by rw [v0]; decide)) (fun c96 => ?_)
      refine V_iinc 102 5 rfl 2 [(4, .int 2), (9, .int 1), (8, .int 0), (7, .int 1), (6, .int ((nI v) + (nI v))), (5, .int 0), (0, rf G 0), (1, .int (nI v)), (2, .int y), (3, .int 0)] (by decide) (by decide) rfl dX10_two_99 rfl ?_
      refine V_iload 104 5 rfl dX10_two_102 rfl ?_
      refine V_iconst 105 (-1) rfl dX10_two_104 rfl ?_
      refine V_icmp_ne 139 108 rfl dX10_two_105 rfl (fun c105 => ?_) (fun c105 => absurd c105 (by decide))
      refine V_iinc 142 3 rfl 2 [(7, .int 2), (4, .int 2), (9, .int 1), (8, .int 0), (6, .int ((nI v) + (nI v))), (5, .int 0), (0, rf G 0), (1, .int (nI v)), (2, .int y), (3, .int 0)] (by decide) (by decide) rfl dX10_two_139 rfl ?_
      refine V_goto 35 rfl dX10_two_142 ?_
      refine V_iload 37 0 rfl dX10_two_35 rfl ?_
      refine V_iconst 38 (4) rfl dX10_two_37 rfl ?_
      refine V_icmp_ge 145 41 rfl dX10_two_38 rfl (fun c38 => absurd c38 (by decide)) (fun c38 => ?_)
      refine V_iload 43 0 rfl dX10_two_41 rfl ?_
      refine V_iconst 44 (2) rfl dX10_two_43 rfl ?_
      refine V_idiv 45 (by decide) dX10_two_44 rfl ?_
      refine V_rw (show _ = (1 : Int32) from by decide) ?_
      refine V_istore 47 [(8, .int 1), (7, .int 2), (4, .int 2), (9, .int 1), (6, .int ((nI v) + (nI v))), (5, .int 0), (0, rf G 0), (1, .int (nI v)), (2, .int y), (3, .int 0)] (by decide) rfl dX10_two_45 rfl ?_
      refine V_iload 49 1 rfl dX10_two_47 rfl ?_
      refine V_iconst 50 (2) rfl dX10_two_49 rfl ?_
      refine V_irem 51 (by decide) dX10_two_50 rfl ?_
      refine V_rw (show _ = (0 : Int32) from by decide) ?_
      refine V_istore 53 [(9, .int 0), (8, .int 1), (7, .int 2), (4, .int 2), (6, .int ((nI v) + (nI v))), (5, .int 0), (0, rf G 0), (1, .int (nI v)), (2, .int y), (3, .int 0)] (by decide) rfl dX10_two_51 rfl ?_
      refine V_iload 55 1 rfl dX10_two_53 rfl ?_
      refine V_iload 57 0 rfl dX10_two_55 rfl ?_
      refine V_iload_n 58 7 rfl rfl dX10_two_57 rfl ?_
      refine V_iload_n 59 8 rfl rfl dX10_two_58 rfl ?_
      refine V_callS (K' := 0) (S' := 0) 62 4 [.int 1, .int 0, .int (nI v), .int y] mkX10_has lkX10_319 rfl (Nat.le_of_ble_eq_true rfl) (Nat.le_of_ble_eq_true rfl) (Nat.le_of_ble_eq_true rfl) (Nat.le_of_ble_eq_true rfl) rfl rfl dX10_two_59 rfl (c_X10_has_10 ?_)
      rw [show haF 1 0 (nI v) y = nI v / 2 from rfl]
      refine Kq_i (k' := 3) (sl' := 18) rfl rfl ?_
      refine V_iconst 63 (1) rfl dX10_two_62 rfl ?_
      refine V_iload 65 1 rfl dX10_two_63 rfl ?_
      refine V_isub 66 dX10_two_65 rfl ?_
      refine V_rw (show _ = (0 : Int32) from by decide) ?_
      refine V_iload 68 0 rfl dX10_two_66 rfl ?_
      refine V_iload_n 69 7 rfl rfl dX10_two_68 rfl ?_
      refine V_iload_n 70 8 rfl rfl dX10_two_69 rfl ?_
      refine V_callS (K' := 0) (S' := 0) 73 4 [.int 0, .int 0, .int (nI v), .int y] mkX10_has lkX10_319 rfl (Nat.le_of_ble_eq_true rfl) (Nat.le_of_ble_eq_true rfl) (Nat.le_of_ble_eq_true rfl) (Nat.le_of_ble_eq_true rfl) rfl rfl dX10_two_70 rfl (c_X10_has_00 ?_)
      rw [show haF 0 0 (nI v) y = nI v from rfl]
      refine Kq_i (k' := 3) (sl' := 18) rfl rfl ?_
      refine V_icmp_lt 139 76 rfl dX10_two_73 rfl (fun c73 => absurd c73 (by rw [v0]; decide)) (fun c73 => ?_)
      refine V_iload 78 0 rfl dX10_two_76 rfl ?_
      refine V_iload 80 1 rfl dX10_two_78 rfl ?_
      refine V_iload_n 81 7 rfl rfl dX10_two_80 rfl ?_
      refine V_iload_n 82 8 rfl rfl dX10_two_81 rfl ?_
      refine V_callS (K' := 0) (S' := 0) 85 4 [.int 0, .int 1, .int (nI v), .int y] mkX10_has lkX10_319 rfl (Nat.le_of_ble_eq_true rfl) (Nat.le_of_ble_eq_true rfl) (Nat.le_of_ble_eq_true rfl) (Nat.le_of_ble_eq_true rfl) rfl rfl dX10_two_82 rfl (c_X10_has_01 ?_)
      rw [show haF 0 1 (nI v) y = y from rfl]
      refine Kq_i (k' := 3) (sl' := 18) rfl rfl ?_
      refine V_iconst 86 (1) rfl dX10_two_85 rfl ?_
      refine V_iload 88 0 rfl dX10_two_86 rfl ?_
      refine V_isub 89 dX10_two_88 rfl ?_
      refine V_rw (show _ = (1 : Int32) from by decide) ?_
      refine V_iload 91 1 rfl dX10_two_89 rfl ?_
      refine V_iload_n 92 7 rfl rfl dX10_two_91 rfl ?_
      refine V_iload_n 93 8 rfl rfl dX10_two_92 rfl ?_
      refine V_callS (K' := 0) (S' := 0) 96 4 [.int 1, .int 1, .int (nI v), .int y] mkX10_has lkX10_319 rfl (Nat.le_of_ble_eq_true rfl) (Nat.le_of_ble_eq_true rfl) (Nat.le_of_ble_eq_true rfl) (Nat.le_of_ble_eq_true rfl) rfl rfl dX10_two_93 rfl (c_X10_has_11 ?_)
      rw [show haF 1 1 (nI v) y = y from rfl]
      refine Kq_i (k' := 3) (sl' := 18) rfl rfl ?_
      refine V_icmp_lt 139 99 rfl dX10_two_96 rfl (fun c96 => absurd c96 (Int32.lt_irrefl)) (fun c96 => ?_)
      refine V_iinc 102 3 rfl 3 [(4, .int 3), (9, .int 0), (8, .int 1), (7, .int 2), (6, .int ((nI v) + (nI v))), (5, .int 0), (0, rf G 0), (1, .int (nI v)), (2, .int y), (3, .int 0)] (by decide) (by decide) rfl dX10_two_99 rfl ?_
      refine V_iload 104 5 rfl dX10_two_102 rfl ?_
      refine V_iconst 105 (-1) rfl dX10_two_104 rfl ?_
      refine V_icmp_ne 139 108 rfl dX10_two_105 rfl (fun c105 => ?_) (fun c105 => absurd c105 (by decide))
      refine V_iinc 142 3 rfl 3 [(7, .int 3), (4, .int 3), (9, .int 0), (8, .int 1), (6, .int ((nI v) + (nI v))), (5, .int 0), (0, rf G 0), (1, .int (nI v)), (2, .int y), (3, .int 0)] (by decide) (by decide) rfl dX10_two_139 rfl ?_
      refine V_goto 35 rfl dX10_two_142 ?_
      refine V_iload 37 0 rfl dX10_two_35 rfl ?_
      refine V_iconst 38 (4) rfl dX10_two_37 rfl ?_
      refine V_icmp_ge 145 41 rfl dX10_two_38 rfl (fun c38 => absurd c38 (by decide)) (fun c38 => ?_)
      refine V_iload 43 0 rfl dX10_two_41 rfl ?_
      refine V_iconst 44 (2) rfl dX10_two_43 rfl ?_
      refine V_idiv 45 (by decide) dX10_two_44 rfl ?_
      refine V_rw (show _ = (1 : Int32) from by decide) ?_
      refine V_istore 47 [(8, .int 1), (7, .int 3), (4, .int 3), (9, .int 0), (6, .int ((nI v) + (nI v))), (5, .int 0), (0, rf G 0), (1, .int (nI v)), (2, .int y), (3, .int 0)] (by decide) rfl dX10_two_45 rfl ?_
      refine V_iload 49 1 rfl dX10_two_47 rfl ?_
      refine V_iconst 50 (2) rfl dX10_two_49 rfl ?_
      refine V_irem 51 (by decide) dX10_two_50 rfl ?_
      refine V_rw (show _ = (1 : Int32) from by decide) ?_
      refine V_istore 53 [(9, .int 1), (8, .int 1), (7, .int 3), (4, .int 3), (6, .int ((nI v) + (nI v))), (5, .int 0), (0, rf G 0), (1, .int (nI v)), (2, .int y), (3, .int 0)] (by decide) rfl dX10_two_51 rfl ?_
      refine V_iload 55 1 rfl dX10_two_53 rfl ?_
      refine V_iload 57 0 rfl dX10_two_55 rfl ?_
      refine V_iload_n 58 7 rfl rfl dX10_two_57 rfl ?_
      refine V_iload_n 59 8 rfl rfl dX10_two_58 rfl ?_
      refine V_callS (K' := 0) (S' := 0) 62 4 [.int 1, .int 1, .int (nI v), .int y] mkX10_has lkX10_319 rfl (Nat.le_of_ble_eq_true rfl) (Nat.le_of_ble_eq_true rfl) (Nat.le_of_ble_eq_true rfl) (Nat.le_of_ble_eq_true rfl) rfl rfl dX10_two_59 rfl (c_X10_has_11 ?_)
      rw [show haF 1 1 (nI v) y = y from rfl]
      refine Kq_i (k' := 3) (sl' := 18) rfl rfl ?_
      refine V_iconst 63 (1) rfl dX10_two_62 rfl ?_
      refine V_iload 65 1 rfl dX10_two_63 rfl ?_
      refine V_isub 66 dX10_two_65 rfl ?_
      refine V_rw (show _ = (0 : Int32) from by decide) ?_
      refine V_iload 68 0 rfl dX10_two_66 rfl ?_
      refine V_iload_n 69 7 rfl rfl dX10_two_68 rfl ?_
      refine V_iload_n 70 8 rfl rfl dX10_two_69 rfl ?_
      refine V_callS (K' := 0) (S' := 0) 73 4 [.int 0, .int 1, .int (nI v), .int y] mkX10_has lkX10_319 rfl (Nat.le_of_ble_eq_true rfl) (Nat.le_of_ble_eq_true rfl) (Nat.le_of_ble_eq_true rfl) (Nat.le_of_ble_eq_true rfl) rfl rfl dX10_two_70 rfl (c_X10_has_01 ?_)
      rw [show haF 0 1 (nI v) y = y from rfl]
      refine Kq_i (k' := 3) (sl' := 18) rfl rfl ?_
      refine V_icmp_lt 139 76 rfl dX10_two_73 rfl (fun c73 => absurd c73 (Int32.lt_irrefl)) (fun c73 => ?_)
      refine V_iload 78 0 rfl dX10_two_76 rfl ?_
      refine V_iload 80 1 rfl dX10_two_78 rfl ?_
      refine V_iload_n 81 7 rfl rfl dX10_two_80 rfl ?_
      refine V_iload_n 82 8 rfl rfl dX10_two_81 rfl ?_
      refine V_callS (K' := 0) (S' := 0) 85 4 [.int 1, .int 1, .int (nI v), .int y] mkX10_has lkX10_319 rfl (Nat.le_of_ble_eq_true rfl) (Nat.le_of_ble_eq_true rfl) (Nat.le_of_ble_eq_true rfl) (Nat.le_of_ble_eq_true rfl) rfl rfl dX10_two_82 rfl (c_X10_has_11 ?_)
      rw [show haF 1 1 (nI v) y = y from rfl]
      refine Kq_i (k' := 3) (sl' := 18) rfl rfl ?_
      refine V_iconst 86 (1) rfl dX10_two_85 rfl ?_
      refine V_iload 88 0 rfl dX10_two_86 rfl ?_
      refine V_isub 89 dX10_two_88 rfl ?_
      refine V_rw (show _ = (0 : Int32) from by decide) ?_
      refine V_iload 91 1 rfl dX10_two_89 rfl ?_
      refine V_iload_n 92 7 rfl rfl dX10_two_91 rfl ?_
      refine V_iload_n 93 8 rfl rfl dX10_two_92 rfl ?_
      refine V_callS (K' := 0) (S' := 0) 96 4 [.int 0, .int 1, .int (nI v), .int y] mkX10_has lkX10_319 rfl (Nat.le_of_ble_eq_true rfl) (Nat.le_of_ble_eq_true rfl) (Nat.le_of_ble_eq_true rfl) (Nat.le_of_ble_eq_true rfl) rfl rfl dX10_two_93 rfl (c_X10_has_01 ?_)
      rw [show haF 0 1 (nI v) y = y from rfl]
      refine Kq_i (k' := 3) (sl' := 18) rfl rfl ?_
      refine V_icmp_lt 139 99 rfl dX10_two_96 rfl (fun c96 => absurd c96 (Int32.lt_irrefl)) (fun c96 => ?_)
      refine V_iinc 102 3 rfl 4 [(4, .int 4), (9, .int 1), (8, .int 1), (7, .int 3), (6, .int ((nI v) + (nI v))), (5, .int 0), (0, rf G 0), (1, .int (nI v)), (2, .int y), (3, .int 0)] (by decide) (by decide) rfl dX10_two_99 rfl ?_
      refine V_iload 104 5 rfl dX10_two_102 rfl ?_
      refine V_iconst 105 (-1) rfl dX10_two_104 rfl ?_
      refine V_icmp_ne 139 108 rfl dX10_two_105 rfl (fun c105 => ?_) (fun c105 => absurd c105 (by decide))
      refine V_iinc 142 3 rfl 4 [(7, .int 4), (4, .int 4), (9, .int 1), (8, .int 1), (6, .int ((nI v) + (nI v))), (5, .int 0), (0, rf G 0), (1, .int (nI v)), (2, .int y), (3, .int 0)] (by decide) (by decide) rfl dX10_two_139 rfl ?_
      refine V_goto 35 rfl dX10_two_142 ?_
      refine V_iload 37 0 rfl dX10_two_35 rfl ?_
      refine V_iconst 38 (4) rfl dX10_two_37 rfl ?_
      refine V_icmp_ge 145 41 rfl dX10_two_38 rfl (fun c38 => ?_) (fun c38 => absurd c38 (by decide))
      refine V_iload_n 146 9 rfl rfl dX10_two_145 rfl ?_
      refine V_if_ne 154 149 rfl dX10_two_146 rfl (fun c146 => absurd c146 (by decide)) (fun c146 => ?_)
      refine V_iload 151 1 rfl dX10_two_149 rfl ?_
      refine V_goto 166 rfl dX10_two_151 ?_
      refine V_ret_i rfl rfl (Nat.le_of_ble_eq_true rfl) (fun h => absurd h (by decide)) (Nat.le_of_ble_eq_true rfl) (hq I FrQ.rf) dX10_two_166
    · rw [show twF (nI v) 0 = 2 from by show (if _ then _ else _) = _; rw [if_neg (tw_n hv v0)]] at hq
      show V _ _ _ _ _ _ _ _ [(0, rf G 0), (1, .int (nI v)), (2, .int y), (3, .int 0)] [] _ _ _ _ _
      refine V_iconst 24 (0) rfl dX10_two_23 rfl ?_
      refine V_istore 26 [(4, .int 0), (0, rf G 0), (1, .int (nI v)), (2, .int y), (3, .int 0)] (by decide) rfl dX10_two_24 rfl ?_
      refine V_iconst 27 (-1) rfl dX10_two_26 rfl ?_
      refine V_istore 29 [(5, .int (-1)), (4, .int 0), (0, rf G 0), (1, .int (nI v)), (2, .int y), (3, .int 0)] (by decide) rfl dX10_two_27 rfl ?_
      refine V_iconst 30 (0) rfl dX10_two_29 rfl ?_
      refine V_istore 32 [(6, .int 0), (5, .int (-1)), (4, .int 0), (0, rf G 0), (1, .int (nI v)), (2, .int y), (3, .int 0)] (by decide) rfl dX10_two_30 rfl ?_
      refine V_iconst 33 (0) rfl dX10_two_32 rfl ?_
      refine V_istore 35 [(7, .int 0), (6, .int 0), (5, .int (-1)), (4, .int 0), (0, rf G 0), (1, .int (nI v)), (2, .int y), (3, .int 0)] (by decide) rfl dX10_two_33 rfl ?_
      refine V_iload 37 0 rfl dX10_two_35 rfl ?_
      refine V_iconst 38 (4) rfl dX10_two_37 rfl ?_
      refine V_icmp_ge 145 41 rfl dX10_two_38 rfl (fun c38 => absurd c38 (by decide)) (fun c38 => ?_)
      refine V_iload 43 0 rfl dX10_two_41 rfl ?_
      refine V_iconst 44 (2) rfl dX10_two_43 rfl ?_
      refine V_idiv 45 (by decide) dX10_two_44 rfl ?_
      refine V_rw (show _ = (0 : Int32) from by decide) ?_
      refine V_istore 47 [(8, .int 0), (7, .int 0), (6, .int 0), (5, .int (-1)), (4, .int 0), (0, rf G 0), (1, .int (nI v)), (2, .int y), (3, .int 0)] (by decide) rfl dX10_two_45 rfl ?_
      refine V_iload 49 1 rfl dX10_two_47 rfl ?_
      refine V_iconst 50 (2) rfl dX10_two_49 rfl ?_
      refine V_irem 51 (by decide) dX10_two_50 rfl ?_
      refine V_rw (show _ = (0 : Int32) from by decide) ?_
      refine V_istore 53 [(9, .int 0), (8, .int 0), (7, .int 0), (6, .int 0), (5, .int (-1)), (4, .int 0), (0, rf G 0), (1, .int (nI v)), (2, .int y), (3, .int 0)] (by decide) rfl dX10_two_51 rfl ?_
      refine V_iload 55 1 rfl dX10_two_53 rfl ?_
      refine V_iload 57 0 rfl dX10_two_55 rfl ?_
      refine V_iload_n 58 7 rfl rfl dX10_two_57 rfl ?_
      refine V_iload_n 59 8 rfl rfl dX10_two_58 rfl ?_
      refine V_callS (K' := 0) (S' := 0) 62 4 [.int 0, .int 0, .int (nI v), .int y] mkX10_has lkX10_319 rfl (Nat.le_of_ble_eq_true rfl) (Nat.le_of_ble_eq_true rfl) (Nat.le_of_ble_eq_true rfl) (Nat.le_of_ble_eq_true rfl) rfl rfl dX10_two_59 rfl (c_X10_has_00 ?_)
      rw [show haF 0 0 (nI v) y = nI v from rfl]
      refine Kq_i (k' := 3) (sl' := 18) rfl rfl ?_
      refine V_iconst 63 (1) rfl dX10_two_62 rfl ?_
      refine V_iload 65 1 rfl dX10_two_63 rfl ?_
      refine V_isub 66 dX10_two_65 rfl ?_
      refine V_rw (show _ = (1 : Int32) from by decide) ?_
      refine V_iload 68 0 rfl dX10_two_66 rfl ?_
      refine V_iload_n 69 7 rfl rfl dX10_two_68 rfl ?_
      refine V_iload_n 70 8 rfl rfl dX10_two_69 rfl ?_
      refine V_callS (K' := 0) (S' := 0) 73 4 [.int 1, .int 0, .int (nI v), .int y] mkX10_has lkX10_319 rfl (Nat.le_of_ble_eq_true rfl) (Nat.le_of_ble_eq_true rfl) (Nat.le_of_ble_eq_true rfl) (Nat.le_of_ble_eq_true rfl) rfl rfl dX10_two_70 rfl (c_X10_has_10 ?_)
      rw [show haF 1 0 (nI v) y = nI v / 2 from rfl]
      refine Kq_i (k' := 3) (sl' := 18) rfl rfl ?_
      refine V_icmp_lt 139 76 rfl dX10_two_73 rfl (fun c73 => absurd c73 (half_le v hv)) (fun c73 => ?_)
      refine V_iload 78 0 rfl dX10_two_76 rfl ?_
      refine V_iload 80 1 rfl dX10_two_78 rfl ?_
      refine V_iload_n 81 7 rfl rfl dX10_two_80 rfl ?_
      refine V_iload_n 82 8 rfl rfl dX10_two_81 rfl ?_
      refine V_callS (K' := 0) (S' := 0) 85 4 [.int 0, .int 0, .int (nI v), .int y] mkX10_has lkX10_319 rfl (Nat.le_of_ble_eq_true rfl) (Nat.le_of_ble_eq_true rfl) (Nat.le_of_ble_eq_true rfl) (Nat.le_of_ble_eq_true rfl) rfl rfl dX10_two_82 rfl (c_X10_has_00 ?_)
      rw [show haF 0 0 (nI v) y = nI v from rfl]
      refine Kq_i (k' := 3) (sl' := 18) rfl rfl ?_
      refine V_iconst 86 (1) rfl dX10_two_85 rfl ?_
      refine V_iload 88 0 rfl dX10_two_86 rfl ?_
      refine V_isub 89 dX10_two_88 rfl ?_
      refine V_rw (show _ = (1 : Int32) from by decide) ?_
      refine V_iload 91 1 rfl dX10_two_89 rfl ?_
      refine V_iload_n 92 7 rfl rfl dX10_two_91 rfl ?_
      refine V_iload_n 93 8 rfl rfl dX10_two_92 rfl ?_
      refine V_callS (K' := 0) (S' := 0) 96 4 [.int 1, .int 0, .int (nI v), .int y] mkX10_has lkX10_319 rfl (Nat.le_of_ble_eq_true rfl) (Nat.le_of_ble_eq_true rfl) (Nat.le_of_ble_eq_true rfl) (Nat.le_of_ble_eq_true rfl) rfl rfl dX10_two_93 rfl (c_X10_has_10 ?_)
      rw [show haF 1 0 (nI v) y = nI v / 2 from rfl]
      refine Kq_i (k' := 3) (sl' := 18) rfl rfl ?_
      refine V_icmp_lt 139 99 rfl dX10_two_96 rfl (fun c96 => absurd c96 (half_le v hv)) (fun c96 => ?_)
      refine V_iinc 102 5 rfl 1 [(4, .int 1), (9, .int 0), (8, .int 0), (7, .int 0), (6, .int 0), (5, .int (-1)), (0, rf G 0), (1, .int (nI v)), (2, .int y), (3, .int 0)] (by decide) (by decide) rfl dX10_two_99 rfl ?_
      refine V_iload 104 5 rfl dX10_two_102 rfl ?_
      refine V_iconst 105 (-1) rfl dX10_two_104 rfl ?_
      refine V_icmp_ne 139 108 rfl dX10_two_105 rfl (fun c105 => absurd c105 (by decide)) (fun c105 => ?_)
      refine V_bipush 110 (10) rfl dX10_two_108 rfl ?_
      refine V_iload 112 2 rfl dX10_two_110 rfl ?_
      refine V_imul 113 dX10_two_112 rfl ?_
      refine V_rw (show _ = (0 : Int32) from by decide) ?_
      refine V_iload 115 1 rfl dX10_two_113 rfl ?_
      refine V_iadd 116 dX10_two_115 rfl ?_
      refine V_rw (show _ = (0 : Int32) from by decide) ?_
      refine V_istore 118 [(5, .int 0), (4, .int 1), (9, .int 0), (8, .int 0), (7, .int 0), (6, .int 0), (0, rf G 0), (1, .int (nI v)), (2, .int y), (3, .int 0)] (by decide) rfl dX10_two_116 rfl ?_
      refine V_iload 120 3 rfl dX10_two_118 rfl ?_
      refine V_iload 122 2 rfl dX10_two_120 rfl ?_
      refine V_iload_n 123 7 rfl rfl dX10_two_122 rfl ?_
      refine V_iload_n 124 8 rfl rfl dX10_two_123 rfl ?_
      refine V_callS (K' := 0) (S' := 0) 127 4 [.int 0, .int 0, .int (nI v), .int y] mkX10_has lkX10_319 rfl (Nat.le_of_ble_eq_true rfl) (Nat.le_of_ble_eq_true rfl) (Nat.le_of_ble_eq_true rfl) (Nat.le_of_ble_eq_true rfl) rfl rfl dX10_two_124 rfl (c_X10_has_00 ?_)
      rw [show haF 0 0 (nI v) y = nI v from rfl]
      refine Kq_i (k' := 3) (sl' := 18) rfl rfl ?_
      refine V_iload 129 2 rfl dX10_two_127 rfl ?_
      refine V_iload 131 3 rfl dX10_two_129 rfl ?_
      refine V_iload_n 132 7 rfl rfl dX10_two_131 rfl ?_
      refine V_iload_n 133 8 rfl rfl dX10_two_132 rfl ?_
      refine V_callS (K' := 0) (S' := 0) 136 4 [.int 0, .int 0, .int (nI v), .int y] mkX10_has lkX10_319 rfl (Nat.le_of_ble_eq_true rfl) (Nat.le_of_ble_eq_true rfl) (Nat.le_of_ble_eq_true rfl) (Nat.le_of_ble_eq_true rfl) rfl rfl dX10_two_133 rfl (c_X10_has_00 ?_)
      rw [show haF 0 0 (nI v) y = nI v from rfl]
      refine Kq_i (k' := 3) (sl' := 18) rfl rfl ?_
      refine V_iadd 137 dX10_two_136 rfl ?_
      refine V_istore 139 [(6, .int ((nI v) + (nI v))), (5, .int 0), (4, .int 1), (9, .int 0), (8, .int 0), (7, .int 0), (0, rf G 0), (1, .int (nI v)), (2, .int y), (3, .int 0)] (by decide) rfl dX10_two_137 rfl ?_
      refine V_iinc 142 5 rfl 1 [(7, .int 1), (6, .int ((nI v) + (nI v))), (5, .int 0), (4, .int 1), (9, .int 0), (8, .int 0), (0, rf G 0), (1, .int (nI v)), (2, .int y), (3, .int 0)] (by decide) (by decide) rfl dX10_two_139 rfl ?_
      refine V_goto 35 rfl dX10_two_142 ?_
      refine V_iload 37 0 rfl dX10_two_35 rfl ?_
      refine V_iconst 38 (4) rfl dX10_two_37 rfl ?_
      refine V_icmp_ge 145 41 rfl dX10_two_38 rfl (fun c38 => absurd c38 (by decide)) (fun c38 => ?_)
      refine V_iload 43 0 rfl dX10_two_41 rfl ?_
      refine V_iconst 44 (2) rfl dX10_two_43 rfl ?_
      refine V_idiv 45 (by decide) dX10_two_44 rfl ?_
      refine V_rw (show _ = (0 : Int32) from by decide) ?_
      refine V_istore 47 [(8, .int 0), (7, .int 1), (6, .int ((nI v) + (nI v))), (5, .int 0), (4, .int 1), (9, .int 0), (0, rf G 0), (1, .int (nI v)), (2, .int y), (3, .int 0)] (by decide) rfl dX10_two_45 rfl ?_
      refine V_iload 49 1 rfl dX10_two_47 rfl ?_
      refine V_iconst 50 (2) rfl dX10_two_49 rfl ?_
      refine V_irem 51 (by decide) dX10_two_50 rfl ?_
      refine V_rw (show _ = (1 : Int32) from by decide) ?_
      refine V_istore 53 [(9, .int 1), (8, .int 0), (7, .int 1), (6, .int ((nI v) + (nI v))), (5, .int 0), (4, .int 1), (0, rf G 0), (1, .int (nI v)), (2, .int y), (3, .int 0)] (by decide) rfl dX10_two_51 rfl ?_
      refine V_iload 55 1 rfl dX10_two_53 rfl ?_
      refine V_iload 57 0 rfl dX10_two_55 rfl ?_
      refine V_iload_n 58 7 rfl rfl dX10_two_57 rfl ?_
      refine V_iload_n 59 8 rfl rfl dX10_two_58 rfl ?_
      refine V_callS (K' := 0) (S' := 0) 62 4 [.int 0, .int 1, .int (nI v), .int y] mkX10_has lkX10_319 rfl (Nat.le_of_ble_eq_true rfl) (Nat.le_of_ble_eq_true rfl) (Nat.le_of_ble_eq_true rfl) (Nat.le_of_ble_eq_true rfl) rfl rfl dX10_two_59 rfl (c_X10_has_01 ?_)
      rw [show haF 0 1 (nI v) y = y from rfl]
      refine Kq_i (k' := 3) (sl' := 18) rfl rfl ?_
      refine V_iconst 63 (1) rfl dX10_two_62 rfl ?_
      refine V_iload 65 1 rfl dX10_two_63 rfl ?_
      refine V_isub 66 dX10_two_65 rfl ?_
      refine V_rw (show _ = (1 : Int32) from by decide) ?_
      refine V_iload 68 0 rfl dX10_two_66 rfl ?_
      refine V_iload_n 69 7 rfl rfl dX10_two_68 rfl ?_
      refine V_iload_n 70 8 rfl rfl dX10_two_69 rfl ?_
      refine V_callS (K' := 0) (S' := 0) 73 4 [.int 1, .int 1, .int (nI v), .int y] mkX10_has lkX10_319 rfl (Nat.le_of_ble_eq_true rfl) (Nat.le_of_ble_eq_true rfl) (Nat.le_of_ble_eq_true rfl) (Nat.le_of_ble_eq_true rfl) rfl rfl dX10_two_70 rfl (c_X10_has_11 ?_)
      rw [show haF 1 1 (nI v) y = y from rfl]
      refine Kq_i (k' := 3) (sl' := 18) rfl rfl ?_
      refine V_icmp_lt 139 76 rfl dX10_two_73 rfl (fun c73 => absurd c73 (Int32.lt_irrefl)) (fun c73 => ?_)
      refine V_iload 78 0 rfl dX10_two_76 rfl ?_
      refine V_iload 80 1 rfl dX10_two_78 rfl ?_
      refine V_iload_n 81 7 rfl rfl dX10_two_80 rfl ?_
      refine V_iload_n 82 8 rfl rfl dX10_two_81 rfl ?_
      refine V_callS (K' := 0) (S' := 0) 85 4 [.int 1, .int 0, .int (nI v), .int y] mkX10_has lkX10_319 rfl (Nat.le_of_ble_eq_true rfl) (Nat.le_of_ble_eq_true rfl) (Nat.le_of_ble_eq_true rfl) (Nat.le_of_ble_eq_true rfl) rfl rfl dX10_two_82 rfl (c_X10_has_10 ?_)
      rw [show haF 1 0 (nI v) y = nI v / 2 from rfl]
      refine Kq_i (k' := 3) (sl' := 18) rfl rfl ?_
      refine V_iconst 86 (1) rfl dX10_two_85 rfl ?_
      refine V_iload 88 0 rfl dX10_two_86 rfl ?_
      refine V_isub 89 dX10_two_88 rfl ?_
      refine V_rw (show _ = (0 : Int32) from by decide) ?_
      refine V_iload 91 1 rfl dX10_two_89 rfl ?_
      refine V_iload_n 92 7 rfl rfl dX10_two_91 rfl ?_
      refine V_iload_n 93 8 rfl rfl dX10_two_92 rfl ?_
      refine V_callS (K' := 0) (S' := 0) 96 4 [.int 0, .int 0, .int (nI v), .int y] mkX10_has lkX10_319 rfl (Nat.le_of_ble_eq_true rfl) (Nat.le_of_ble_eq_true rfl) (Nat.le_of_ble_eq_true rfl) (Nat.le_of_ble_eq_true rfl) rfl rfl dX10_two_93 rfl (c_X10_has_00 ?_)
      rw [show haF 0 0 (nI v) y = nI v from rfl]
      refine Kq_i (k' := 3) (sl' := 18) rfl rfl ?_
      refine V_icmp_lt 139 99 rfl dX10_two_96 rfl (fun c96 => ?_) (fun c96 => absurd (half_lt v hv v0) c96)
      refine V_iinc 142 2 rfl 2 [(7, .int 2), (9, .int 1), (8, .int 0), (6, .int ((nI v) + (nI v))), (5, .int 0), (4, .int 1), (0, rf G 0), (1, .int (nI v)), (2, .int y), (3, .int 0)] (by decide) (by decide) rfl dX10_two_139 rfl ?_
      refine V_goto 35 rfl dX10_two_142 ?_
      refine V_iload 37 0 rfl dX10_two_35 rfl ?_
      refine V_iconst 38 (4) rfl dX10_two_37 rfl ?_
      refine V_icmp_ge 145 41 rfl dX10_two_38 rfl (fun c38 => absurd c38 (by decide)) (fun c38 => ?_)
      refine V_iload 43 0 rfl dX10_two_41 rfl ?_
      refine V_iconst 44 (2) rfl dX10_two_43 rfl ?_
      refine V_idiv 45 (by decide) dX10_two_44 rfl ?_
      refine V_rw (show _ = (1 : Int32) from by decide) ?_
      refine V_istore 47 [(8, .int 1), (7, .int 2), (9, .int 1), (6, .int ((nI v) + (nI v))), (5, .int 0), (4, .int 1), (0, rf G 0), (1, .int (nI v)), (2, .int y), (3, .int 0)] (by decide) rfl dX10_two_45 rfl ?_
      refine V_iload 49 1 rfl dX10_two_47 rfl ?_
      refine V_iconst 50 (2) rfl dX10_two_49 rfl ?_
      refine V_irem 51 (by decide) dX10_two_50 rfl ?_
      refine V_rw (show _ = (0 : Int32) from by decide) ?_
      refine V_istore 53 [(9, .int 0), (8, .int 1), (7, .int 2), (6, .int ((nI v) + (nI v))), (5, .int 0), (4, .int 1), (0, rf G 0), (1, .int (nI v)), (2, .int y), (3, .int 0)] (by decide) rfl dX10_two_51 rfl ?_
      refine V_iload 55 1 rfl dX10_two_53 rfl ?_
      refine V_iload 57 0 rfl dX10_two_55 rfl ?_
      refine V_iload_n 58 7 rfl rfl dX10_two_57 rfl ?_
      refine V_iload_n 59 8 rfl rfl dX10_two_58 rfl ?_
      refine V_callS (K' := 0) (S' := 0) 62 4 [.int 1, .int 0, .int (nI v), .int y] mkX10_has lkX10_319 rfl (Nat.le_of_ble_eq_true rfl) (Nat.le_of_ble_eq_true rfl) (Nat.le_of_ble_eq_true rfl) (Nat.le_of_ble_eq_true rfl) rfl rfl dX10_two_59 rfl (c_X10_has_10 ?_)
      rw [show haF 1 0 (nI v) y = nI v / 2 from rfl]
      refine Kq_i (k' := 3) (sl' := 18) rfl rfl ?_
      refine V_iconst 63 (1) rfl dX10_two_62 rfl ?_
      refine V_iload 65 1 rfl dX10_two_63 rfl ?_
      refine V_isub 66 dX10_two_65 rfl ?_
      refine V_rw (show _ = (0 : Int32) from by decide) ?_
      refine V_iload 68 0 rfl dX10_two_66 rfl ?_
      refine V_iload_n 69 7 rfl rfl dX10_two_68 rfl ?_
      refine V_iload_n 70 8 rfl rfl dX10_two_69 rfl ?_
      refine V_callS (K' := 0) (S' := 0) 73 4 [.int 0, .int 0, .int (nI v), .int y] mkX10_has lkX10_319 rfl (Nat.le_of_ble_eq_true rfl) (Nat.le_of_ble_eq_true rfl) (Nat.le_of_ble_eq_true rfl) (Nat.le_of_ble_eq_true rfl) rfl rfl dX10_two_70 rfl (c_X10_has_00 ?_)
      rw [show haF 0 0 (nI v) y = nI v from rfl]
      refine Kq_i (k' := 3) (sl' := 18) rfl rfl ?_
      refine V_icmp_lt 139 76 rfl dX10_two_73 rfl (fun c73 => ?_) (fun c73 => absurd (half_lt v hv v0) c73)
      refine V_iinc 142 2 rfl 3 [(7, .int 3), (9, .int 0), (8, .int 1), (6, .int ((nI v) + (nI v))), (5, .int 0), (4, .int 1), (0, rf G 0), (1, .int (nI v)), (2, .int y), (3, .int 0)] (by decide) (by decide) rfl dX10_two_139 rfl ?_
      refine V_goto 35 rfl dX10_two_142 ?_
      refine V_iload 37 0 rfl dX10_two_35 rfl ?_
      refine V_iconst 38 (4) rfl dX10_two_37 rfl ?_
      refine V_icmp_ge 145 41 rfl dX10_two_38 rfl (fun c38 => absurd c38 (by decide)) (fun c38 => ?_)
      refine V_iload 43 0 rfl dX10_two_41 rfl ?_
      refine V_iconst 44 (2) rfl dX10_two_43 rfl ?_
      refine V_idiv 45 (by decide) dX10_two_44 rfl ?_
      refine V_rw (show _ = (1 : Int32) from by decide) ?_
      refine V_istore 47 [(8, .int 1), (7, .int 3), (9, .int 0), (6, .int ((nI v) + (nI v))), (5, .int 0), (4, .int 1), (0, rf G 0), (1, .int (nI v)), (2, .int y), (3, .int 0)] (by decide) rfl dX10_two_45 rfl ?_
      refine V_iload 49 1 rfl dX10_two_47 rfl ?_
      refine V_iconst 50 (2) rfl dX10_two_49 rfl ?_
      refine V_irem 51 (by decide) dX10_two_50 rfl ?_
      refine V_rw (show _ = (1 : Int32) from by decide) ?_
      refine V_istore 53 [(9, .int 1), (8, .int 1), (7, .int 3), (6, .int ((nI v) + (nI v))), (5, .int 0), (4, .int 1), (0, rf G 0), (1, .int (nI v)), (2, .int y), (3, .int 0)] (by decide) rfl dX10_two_51 rfl ?_
      refine V_iload 55 1 rfl dX10_two_53 rfl ?_
      refine V_iload 57 0 rfl dX10_two_55 rfl ?_
      refine V_iload_n 58 7 rfl rfl dX10_two_57 rfl ?_
      refine V_iload_n 59 8 rfl rfl dX10_two_58 rfl ?_
      refine V_callS (K' := 0) (S' := 0) 62 4 [.int 1, .int 1, .int (nI v), .int y] mkX10_has lkX10_319 rfl (Nat.le_of_ble_eq_true rfl) (Nat.le_of_ble_eq_true rfl) (Nat.le_of_ble_eq_true rfl) (Nat.le_of_ble_eq_true rfl) rfl rfl dX10_two_59 rfl (c_X10_has_11 ?_)
      rw [show haF 1 1 (nI v) y = y from rfl]
      refine Kq_i (k' := 3) (sl' := 18) rfl rfl ?_
      refine V_iconst 63 (1) rfl dX10_two_62 rfl ?_
      refine V_iload 65 1 rfl dX10_two_63 rfl ?_
      refine V_isub 66 dX10_two_65 rfl ?_
      refine V_rw (show _ = (0 : Int32) from by decide) ?_
      refine V_iload 68 0 rfl dX10_two_66 rfl ?_
      refine V_iload_n 69 7 rfl rfl dX10_two_68 rfl ?_
      refine V_iload_n 70 8 rfl rfl dX10_two_69 rfl ?_
      refine V_callS (K' := 0) (S' := 0) 73 4 [.int 0, .int 1, .int (nI v), .int y] mkX10_has lkX10_319 rfl (Nat.le_of_ble_eq_true rfl) (Nat.le_of_ble_eq_true rfl) (Nat.le_of_ble_eq_true rfl) (Nat.le_of_ble_eq_true rfl) rfl rfl dX10_two_70 rfl (c_X10_has_01 ?_)
      rw [show haF 0 1 (nI v) y = y from rfl]
      refine Kq_i (k' := 3) (sl' := 18) rfl rfl ?_
      refine V_icmp_lt 139 76 rfl dX10_two_73 rfl (fun c73 => absurd c73 (Int32.lt_irrefl)) (fun c73 => ?_)
      refine V_iload 78 0 rfl dX10_two_76 rfl ?_
      refine V_iload 80 1 rfl dX10_two_78 rfl ?_
      refine V_iload_n 81 7 rfl rfl dX10_two_80 rfl ?_
      refine V_iload_n 82 8 rfl rfl dX10_two_81 rfl ?_
      refine V_callS (K' := 0) (S' := 0) 85 4 [.int 1, .int 1, .int (nI v), .int y] mkX10_has lkX10_319 rfl (Nat.le_of_ble_eq_true rfl) (Nat.le_of_ble_eq_true rfl) (Nat.le_of_ble_eq_true rfl) (Nat.le_of_ble_eq_true rfl) rfl rfl dX10_two_82 rfl (c_X10_has_11 ?_)
      rw [show haF 1 1 (nI v) y = y from rfl]
      refine Kq_i (k' := 3) (sl' := 18) rfl rfl ?_
      refine V_iconst 86 (1) rfl dX10_two_85 rfl ?_
      refine V_iload 88 0 rfl dX10_two_86 rfl ?_
      refine V_isub 89 dX10_two_88 rfl ?_
      refine V_rw (show _ = (0 : Int32) from by decide) ?_
      refine V_iload 91 1 rfl dX10_two_89 rfl ?_
      refine V_iload_n 92 7 rfl rfl dX10_two_91 rfl ?_
      refine V_iload_n 93 8 rfl rfl dX10_two_92 rfl ?_
      refine V_callS (K' := 0) (S' := 0) 96 4 [.int 0, .int 1, .int (nI v), .int y] mkX10_has lkX10_319 rfl (Nat.le_of_ble_eq_true rfl) (Nat.le_of_ble_eq_true rfl) (Nat.le_of_ble_eq_true rfl) (Nat.le_of_ble_eq_true rfl) rfl rfl dX10_two_93 rfl (c_X10_has_01 ?_)
      rw [show haF 0 1 (nI v) y = y from rfl]
      refine Kq_i (k' := 3) (sl' := 18) rfl rfl ?_
      refine V_icmp_lt 139 99 rfl dX10_two_96 rfl (fun c96 => absurd c96 (Int32.lt_irrefl)) (fun c96 => ?_)
      refine V_iinc 102 5 rfl 2 [(4, .int 2), (9, .int 1), (8, .int 1), (7, .int 3), (6, .int ((nI v) + (nI v))), (5, .int 0), (0, rf G 0), (1, .int (nI v)), (2, .int y), (3, .int 0)] (by decide) (by decide) rfl dX10_two_99 rfl ?_
      refine V_iload 104 5 rfl dX10_two_102 rfl ?_
      refine V_iconst 105 (-1) rfl dX10_two_104 rfl ?_
      refine V_icmp_ne 139 108 rfl dX10_two_105 rfl (fun c105 => ?_) (fun c105 => absurd c105 (by decide))
      refine V_iinc 142 3 rfl 4 [(7, .int 4), (4, .int 2), (9, .int 1), (8, .int 1), (6, .int ((nI v) + (nI v))), (5, .int 0), (0, rf G 0), (1, .int (nI v)), (2, .int y), (3, .int 0)] (by decide) (by decide) rfl dX10_two_139 rfl ?_
      refine V_goto 35 rfl dX10_two_142 ?_
      refine V_iload 37 0 rfl dX10_two_35 rfl ?_
      refine V_iconst 38 (4) rfl dX10_two_37 rfl ?_
      refine V_icmp_ge 145 41 rfl dX10_two_38 rfl (fun c38 => ?_) (fun c38 => absurd c38 (by decide))
      refine V_iload_n 146 9 rfl rfl dX10_two_145 rfl ?_
      refine V_if_ne 154 149 rfl dX10_two_146 rfl (fun c146 => absurd c146 (by decide)) (fun c146 => ?_)
      refine V_iload 151 1 rfl dX10_two_149 rfl ?_
      refine V_goto 166 rfl dX10_two_151 ?_
      refine V_ret_i rfl rfl (Nat.le_of_ble_eq_true rfl) (fun h => absurd h (by decide)) (Nat.le_of_ble_eq_true rfl) (hq I FrQ.rf) dX10_two_166
  · by_cases v0 : v = 0
    · rw [show twF (nI v) 1 = 0 from rfl] at hq
      show V _ _ _ _ _ _ _ _ [(0, rf G 0), (1, .int (nI v)), (2, .int y), (3, .int 1)] [] _ _ _ _ _
      refine V_iconst 24 (0) rfl dX10_two_23 rfl ?_
      refine V_istore 26 [(4, .int 0), (0, rf G 0), (1, .int (nI v)), (2, .int y), (3, .int 1)] (by decide) rfl dX10_two_24 rfl ?_
      refine V_iconst 27 (-1) rfl dX10_two_26 rfl ?_
      refine V_istore 29 [(5, .int (-1)), (4, .int 0), (0, rf G 0), (1, .int (nI v)), (2, .int y), (3, .int 1)] (by decide) rfl dX10_two_27 rfl ?_
      refine V_iconst 30 (0) rfl dX10_two_29 rfl ?_
      refine V_istore 32 [(6, .int 0), (5, .int (-1)), (4, .int 0), (0, rf G 0), (1, .int (nI v)), (2, .int y), (3, .int 1)] (by decide) rfl dX10_two_30 rfl ?_
      refine V_iconst 33 (0) rfl dX10_two_32 rfl ?_
      refine V_istore 35 [(7, .int 0), (6, .int 0), (5, .int (-1)), (4, .int 0), (0, rf G 0), (1, .int (nI v)), (2, .int y), (3, .int 1)] (by decide) rfl dX10_two_33 rfl ?_
      refine V_iload 37 0 rfl dX10_two_35 rfl ?_
      refine V_iconst 38 (4) rfl dX10_two_37 rfl ?_
      refine V_icmp_ge 145 41 rfl dX10_two_38 rfl (fun c38 => absurd c38 (by decide)) (fun c38 => ?_)
      refine V_iload 43 0 rfl dX10_two_41 rfl ?_
      refine V_iconst 44 (2) rfl dX10_two_43 rfl ?_
      refine V_idiv 45 (by decide) dX10_two_44 rfl ?_
      refine V_rw (show _ = (0 : Int32) from by decide) ?_
      refine V_istore 47 [(8, .int 0), (7, .int 0), (6, .int 0), (5, .int (-1)), (4, .int 0), (0, rf G 0), (1, .int (nI v)), (2, .int y), (3, .int 1)] (by decide) rfl dX10_two_45 rfl ?_
      refine V_iload 49 1 rfl dX10_two_47 rfl ?_
      refine V_iconst 50 (2) rfl dX10_two_49 rfl ?_
      refine V_irem 51 (by decide) dX10_two_50 rfl ?_
      refine V_rw (show _ = (0 : Int32) from by decide) ?_
      refine V_istore 53 [(9, .int 0), (8, .int 0), (7, .int 0), (6, .int 0), (5, .int (-1)), (4, .int 0), (0, rf G 0), (1, .int (nI v)), (2, .int y), (3, .int 1)] (by decide) rfl dX10_two_51 rfl ?_
      refine V_iload 55 1 rfl dX10_two_53 rfl ?_
      refine V_iload 57 0 rfl dX10_two_55 rfl ?_
      refine V_iload_n 58 7 rfl rfl dX10_two_57 rfl ?_
      refine V_iload_n 59 8 rfl rfl dX10_two_58 rfl ?_
      refine V_callS (K' := 0) (S' := 0) 62 4 [.int 0, .int 0, .int (nI v), .int y] mkX10_has lkX10_319 rfl (Nat.le_of_ble_eq_true rfl) (Nat.le_of_ble_eq_true rfl) (Nat.le_of_ble_eq_true rfl) (Nat.le_of_ble_eq_true rfl) rfl rfl dX10_two_59 rfl (c_X10_has_00 ?_)
      rw [show haF 0 0 (nI v) y = nI v from rfl]
      refine Kq_i (k' := 3) (sl' := 18) rfl rfl ?_
      refine V_iconst 63 (1) rfl dX10_two_62 rfl ?_
      refine V_iload 65 1 rfl dX10_two_63 rfl ?_
      refine V_isub 66 dX10_two_65 rfl ?_
      refine V_rw (show _ = (1 : Int32) from by decide) ?_
      refine V_iload 68 0 rfl dX10_two_66 rfl ?_
      refine V_iload_n 69 7 rfl rfl dX10_two_68 rfl ?_
      refine V_iload_n 70 8 rfl rfl dX10_two_69 rfl ?_
      refine V_callS (K' := 0) (S' := 0) 73 4 [.int 1, .int 0, .int (nI v), .int y] mkX10_has lkX10_319 rfl (Nat.le_of_ble_eq_true rfl) (Nat.le_of_ble_eq_true rfl) (Nat.le_of_ble_eq_true rfl) (Nat.le_of_ble_eq_true rfl) rfl rfl dX10_two_70 rfl (c_X10_has_10 ?_)
      rw [show haF 1 0 (nI v) y = nI v / 2 from rfl]
      refine Kq_i (k' := 3) (sl' := 18) rfl rfl ?_
      refine V_icmp_lt 139 76 rfl dX10_two_73 rfl (fun c73 => absurd c73 (half_le v hv)) (fun c73 => ?_)
      refine V_iload 78 0 rfl dX10_two_76 rfl ?_
      refine V_iload 80 1 rfl dX10_two_78 rfl ?_
      refine V_iload_n 81 7 rfl rfl dX10_two_80 rfl ?_
      refine V_iload_n 82 8 rfl rfl dX10_two_81 rfl ?_
      refine V_callS (K' := 0) (S' := 0) 85 4 [.int 0, .int 0, .int (nI v), .int y] mkX10_has lkX10_319 rfl (Nat.le_of_ble_eq_true rfl) (Nat.le_of_ble_eq_true rfl) (Nat.le_of_ble_eq_true rfl) (Nat.le_of_ble_eq_true rfl) rfl rfl dX10_two_82 rfl (c_X10_has_00 ?_)
      rw [show haF 0 0 (nI v) y = nI v from rfl]
      refine Kq_i (k' := 3) (sl' := 18) rfl rfl ?_
      refine V_iconst 86 (1) rfl dX10_two_85 rfl ?_
      refine V_iload 88 0 rfl dX10_two_86 rfl ?_
      refine V_isub 89 dX10_two_88 rfl ?_
      refine V_rw (show _ = (1 : Int32) from by decide) ?_
      refine V_iload 91 1 rfl dX10_two_89 rfl ?_
      refine V_iload_n 92 7 rfl rfl dX10_two_91 rfl ?_
      refine V_iload_n 93 8 rfl rfl dX10_two_92 rfl ?_
      refine V_callS (K' := 0) (S' := 0) 96 4 [.int 1, .int 0, .int (nI v), .int y] mkX10_has lkX10_319 rfl (Nat.le_of_ble_eq_true rfl) (Nat.le_of_ble_eq_true rfl) (Nat.le_of_ble_eq_true rfl) (Nat.le_of_ble_eq_true rfl) rfl rfl dX10_two_93 rfl (c_X10_has_10 ?_)
      rw [show haF 1 0 (nI v) y = nI v / 2 from rfl]
      refine Kq_i (k' := 3) (sl' := 18) rfl rfl ?_
      refine V_icmp_lt 139 99 rfl dX10_two_96 rfl (fun c96 => absurd c96 (half_le v hv)) (fun c96 => ?_)
      refine V_iinc 102 5 rfl 1 [(4, .int 1), (9, .int 0), (8, .int 0), (7, .int 0), (6, .int 0), (5, .int (-1)), (0, rf G 0), (1, .int (nI v)), (2, .int y), (3, .int 1)] (by decide) (by decide) rfl dX10_two_99 rfl ?_
      refine V_iload 104 5 rfl dX10_two_102 rfl ?_
      refine V_iconst 105 (-1) rfl dX10_two_104 rfl ?_
      refine V_icmp_ne 139 108 rfl dX10_two_105 rfl (fun c105 => absurd c105 (by decide)) (fun c105 => ?_)
      refine V_bipush 110 (10) rfl dX10_two_108 rfl ?_
      refine V_iload 112 2 rfl dX10_two_110 rfl ?_
      refine V_imul 113 dX10_two_112 rfl ?_
      refine V_rw (show _ = (0 : Int32) from by decide) ?_
      refine V_iload 115 1 rfl dX10_two_113 rfl ?_
      refine V_iadd 116 dX10_two_115 rfl ?_
      refine V_rw (show _ = (0 : Int32) from by decide) ?_
      refine V_istore 118 [(5, .int 0), (4, .int 1), (9, .int 0), (8, .int 0), (7, .int 0), (6, .int 0), (0, rf G 0), (1, .int (nI v)), (2, .int y), (3, .int 1)] (by decide) rfl dX10_two_116 rfl ?_
      refine V_iload 120 3 rfl dX10_two_118 rfl ?_
      refine V_iload 122 2 rfl dX10_two_120 rfl ?_
      refine V_iload_n 123 7 rfl rfl dX10_two_122 rfl ?_
      refine V_iload_n 124 8 rfl rfl dX10_two_123 rfl ?_
      refine V_callS (K' := 0) (S' := 0) 127 4 [.int 0, .int 0, .int (nI v), .int y] mkX10_has lkX10_319 rfl (Nat.le_of_ble_eq_true rfl) (Nat.le_of_ble_eq_true rfl) (Nat.le_of_ble_eq_true rfl) (Nat.le_of_ble_eq_true rfl) rfl rfl dX10_two_124 rfl (c_X10_has_00 ?_)
      rw [show haF 0 0 (nI v) y = nI v from rfl]
      refine Kq_i (k' := 3) (sl' := 18) rfl rfl ?_
      refine V_iload 129 2 rfl dX10_two_127 rfl ?_
      refine V_iload 131 3 rfl dX10_two_129 rfl ?_
      refine V_iload_n 132 7 rfl rfl dX10_two_131 rfl ?_
      refine V_iload_n 133 8 rfl rfl dX10_two_132 rfl ?_
      refine V_callS (K' := 0) (S' := 0) 136 4 [.int 0, .int 0, .int (nI v), .int y] mkX10_has lkX10_319 rfl (Nat.le_of_ble_eq_true rfl) (Nat.le_of_ble_eq_true rfl) (Nat.le_of_ble_eq_true rfl) (Nat.le_of_ble_eq_true rfl) rfl rfl dX10_two_133 rfl (c_X10_has_00 ?_)
      rw [show haF 0 0 (nI v) y = nI v from rfl]
      refine Kq_i (k' := 3) (sl' := 18) rfl rfl ?_
      refine V_iadd 137 dX10_two_136 rfl ?_
      refine V_istore 139 [(6, .int ((nI v) + (nI v))), (5, .int 0), (4, .int 1), (9, .int 0), (8, .int 0), (7, .int 0), (0, rf G 0), (1, .int (nI v)), (2, .int y), (3, .int 1)] (by decide) rfl dX10_two_137 rfl ?_
      refine V_iinc 142 5 rfl 1 [(7, .int 1), (6, .int ((nI v) + (nI v))), (5, .int 0), (4, .int 1), (9, .int 0), (8, .int 0), (0, rf G 0), (1, .int (nI v)), (2, .int y), (3, .int 1)] (by decide) (by decide) rfl dX10_two_139 rfl ?_
      refine V_goto 35 rfl dX10_two_142 ?_
      refine V_iload 37 0 rfl dX10_two_35 rfl ?_
      refine V_iconst 38 (4) rfl dX10_two_37 rfl ?_
      refine V_icmp_ge 145 41 rfl dX10_two_38 rfl (fun c38 => absurd c38 (by decide)) (fun c38 => ?_)
      refine V_iload 43 0 rfl dX10_two_41 rfl ?_
      refine V_iconst 44 (2) rfl dX10_two_43 rfl ?_
      refine V_idiv 45 (by decide) dX10_two_44 rfl ?_
      refine V_rw (show _ = (0 : Int32) from by decide) ?_
      refine V_istore 47 [(8, .int 0), (7, .int 1), (6, .int ((nI v) + (nI v))), (5, .int 0), (4, .int 1), (9, .int 0), (0, rf G 0), (1, .int (nI v)), (2, .int y), (3, .int 1)] (by decide) rfl dX10_two_45 rfl ?_
      refine V_iload 49 1 rfl dX10_two_47 rfl ?_
      refine V_iconst 50 (2) rfl dX10_two_49 rfl ?_
      refine V_irem 51 (by decide) dX10_two_50 rfl ?_
      refine V_rw (show _ = (1 : Int32) from by decide) ?_
      refine V_istore 53 [(9, .int 1), (8, .int 0), (7, .int 1), (6, .int ((nI v) + (nI v))), (5, .int 0), (4, .int 1), (0, rf G 0), (1, .int (nI v)), (2, .int y), (3, .int 1)] (by decide) rfl dX10_two_51 rfl ?_
      refine V_iload 55 1 rfl dX10_two_53 rfl ?_
      refine V_iload 57 0 rfl dX10_two_55 rfl ?_
      refine V_iload_n 58 7 rfl rfl dX10_two_57 rfl ?_
      refine V_iload_n 59 8 rfl rfl dX10_two_58 rfl ?_
      refine V_callS (K' := 0) (S' := 0) 62 4 [.int 0, .int 1, .int (nI v), .int y] mkX10_has lkX10_319 rfl (Nat.le_of_ble_eq_true rfl) (Nat.le_of_ble_eq_true rfl) (Nat.le_of_ble_eq_true rfl) (Nat.le_of_ble_eq_true rfl) rfl rfl dX10_two_59 rfl (c_X10_has_01 ?_)
      rw [show haF 0 1 (nI v) y = y from rfl]
      refine Kq_i (k' := 3) (sl' := 18) rfl rfl ?_
      refine V_iconst 63 (1) rfl dX10_two_62 rfl ?_
      refine V_iload 65 1 rfl dX10_two_63 rfl ?_
      refine V_isub 66 dX10_two_65 rfl ?_
      refine V_rw (show _ = (1 : Int32) from by decide) ?_
      refine V_iload 68 0 rfl dX10_two_66 rfl ?_
      refine V_iload_n 69 7 rfl rfl dX10_two_68 rfl ?_
      refine V_iload_n 70 8 rfl rfl dX10_two_69 rfl ?_
      refine V_callS (K' := 0) (S' := 0) 73 4 [.int 1, .int 1, .int (nI v), .int y] mkX10_has lkX10_319 rfl (Nat.le_of_ble_eq_true rfl) (Nat.le_of_ble_eq_true rfl) (Nat.le_of_ble_eq_true rfl) (Nat.le_of_ble_eq_true rfl) rfl rfl dX10_two_70 rfl (c_X10_has_11 ?_)
      rw [show haF 1 1 (nI v) y = y from rfl]
      refine Kq_i (k' := 3) (sl' := 18) rfl rfl ?_
      refine V_icmp_lt 139 76 rfl dX10_two_73 rfl (fun c73 => absurd c73 (Int32.lt_irrefl)) (fun c73 => ?_)
      refine V_iload 78 0 rfl dX10_two_76 rfl ?_
      refine V_iload 80 1 rfl dX10_two_78 rfl ?_
      refine V_iload_n 81 7 rfl rfl dX10_two_80 rfl ?_
      refine V_iload_n 82 8 rfl rfl dX10_two_81 rfl ?_
      refine V_callS (K' := 0) (S' := 0) 85 4 [.int 1, .int 0, .int (nI v), .int y] mkX10_has lkX10_319 rfl (Nat.le_of_ble_eq_true rfl) (Nat.le_of_ble_eq_true rfl) (Nat.le_of_ble_eq_true rfl) (Nat.le_of_ble_eq_true rfl) rfl rfl dX10_two_82 rfl (c_X10_has_10 ?_)
      rw [show haF 1 0 (nI v) y = nI v / 2 from rfl]
      refine Kq_i (k' := 3) (sl' := 18) rfl rfl ?_
      refine V_iconst 86 (1) rfl dX10_two_85 rfl ?_
      refine V_iload 88 0 rfl dX10_two_86 rfl ?_
      refine V_isub 89 dX10_two_88 rfl ?_
      refine V_rw (show _ = (0 : Int32) from by decide) ?_
      refine V_iload 91 1 rfl dX10_two_89 rfl ?_
      refine V_iload_n 92 7 rfl rfl dX10_two_91 rfl ?_
      refine V_iload_n 93 8 rfl rfl dX10_two_92 rfl ?_
      refine V_callS (K' := 0) (S' := 0) 96 4 [.int 0, .int 0, .int (nI v), .int y] mkX10_has lkX10_319 rfl (Nat.le_of_ble_eq_true rfl) (Nat.le_of_ble_eq_true rfl) (Nat.le_of_ble_eq_true rfl) (Nat.le_of_ble_eq_true rfl) rfl rfl dX10_two_93 rfl (c_X10_has_00 ?_)
      rw [show haF 0 0 (nI v) y = nI v from rfl]
      refine Kq_i (k' := 3) (sl' := 18) rfl rfl ?_
      refine V_icmp_lt 139 99 rfl dX10_two_96 rfl (fun c96 => absurd c96 (by rw [v0]; decide)) (fun c96 => ?_)
      refine V_iinc 102 5 rfl 2 [(4, .int 2), (9, .int 1), (8, .int 0), (7, .int 1), (6, .int ((nI v) + (nI v))), (5, .int 0), (0, rf G 0), (1, .int (nI v)), (2, .int y), (3, .int 1)] (by decide) (by decide) rfl dX10_two_99 rfl ?_
      refine V_iload 104 5 rfl dX10_two_102 rfl ?_
      refine V_iconst 105 (-1) rfl dX10_two_104 rfl ?_
      refine V_icmp_ne 139 108 rfl dX10_two_105 rfl (fun c105 => ?_) (fun c105 => absurd c105 (by decide))
      refine V_iinc 142 3 rfl 2 [(7, .int 2), (4, .int 2), (9, .int 1), (8, .int 0), (6, .int ((nI v) + (nI v))), (5, .int 0), (0, rf G 0), (1, .int (nI v)), (2, .int y), (3, .int 1)] (by decide) (by decide) rfl dX10_two_139 rfl ?_
      refine V_goto 35 rfl dX10_two_142 ?_
      refine V_iload 37 0 rfl dX10_two_35 rfl ?_
      refine V_iconst 38 (4) rfl dX10_two_37 rfl ?_
      refine V_icmp_ge 145 41 rfl dX10_two_38 rfl (fun c38 => absurd c38 (by decide)) (fun c38 => ?_)
      refine V_iload 43 0 rfl dX10_two_41 rfl ?_
      refine V_iconst 44 (2) rfl dX10_two_43 rfl ?_
      refine V_idiv 45 (by decide) dX10_two_44 rfl ?_
      refine V_rw (show _ = (1 : Int32) from by decide) ?_
      refine V_istore 47 [(8, .int 1), (7, .int 2), (4, .int 2), (9, .int 1), (6, .int ((nI v) + (nI v))), (5, .int 0), (0, rf G 0), (1, .int (nI v)), (2, .int y), (3, .int 1)] (by decide) rfl dX10_two_45 rfl ?_
      refine V_iload 49 1 rfl dX10_two_47 rfl ?_
      refine V_iconst 50 (2) rfl dX10_two_49 rfl ?_
      refine V_irem 51 (by decide) dX10_two_50 rfl ?_
      refine V_rw (show _ = (0 : Int32) from by decide) ?_
      refine V_istore 53 [(9, .int 0), (8, .int 1), (7, .int 2), (4, .int 2), (6, .int ((nI v) + (nI v))), (5, .int 0), (0, rf G 0), (1, .int (nI v)), (2, .int y), (3, .int 1)] (by decide) rfl dX10_two_51 rfl ?_
      refine V_iload 55 1 rfl dX10_two_53 rfl ?_
      refine V_iload 57 0 rfl dX10_two_55 rfl ?_
      refine V_iload_n 58 7 rfl rfl dX10_two_57 rfl ?_
      refine V_iload_n 59 8 rfl rfl dX10_two_58 rfl ?_
      refine V_callS (K' := 0) (S' := 0) 62 4 [.int 1, .int 0, .int (nI v), .int y] mkX10_has lkX10_319 rfl (Nat.le_of_ble_eq_true rfl) (Nat.le_of_ble_eq_true rfl) (Nat.le_of_ble_eq_true rfl) (Nat.le_of_ble_eq_true rfl) rfl rfl dX10_two_59 rfl (c_X10_has_10 ?_)
      rw [show haF 1 0 (nI v) y = nI v / 2 from rfl]
      refine Kq_i (k' := 3) (sl' := 18) rfl rfl ?_
      refine V_iconst 63 (1) rfl dX10_two_62 rfl ?_
      refine V_iload 65 1 rfl dX10_two_63 rfl ?_
      refine V_isub 66 dX10_two_65 rfl ?_
      refine V_rw (show _ = (0 : Int32) from by decide) ?_
      refine V_iload 68 0 rfl dX10_two_66 rfl ?_
      refine V_iload_n 69 7 rfl rfl dX10_two_68 rfl ?_
      refine V_iload_n 70 8 rfl rfl dX10_two_69 rfl ?_
      refine V_callS (K' := 0) (S' := 0) 73 4 [.int 0, .int 0, .int (nI v), .int y] mkX10_has lkX10_319 rfl (Nat.le_of_ble_eq_true rfl) (Nat.le_of_ble_eq_true rfl) (Nat.le_of_ble_eq_true rfl) (Nat.le_of_ble_eq_true rfl) rfl rfl dX10_two_70 rfl (c_X10_has_00 ?_)
      rw [show haF 0 0 (nI v) y = nI v from rfl]
      refine Kq_i (k' := 3) (sl' := 18) rfl rfl ?_
      refine V_icmp_lt 139 76 rfl dX10_two_73 rfl (fun c73 => absurd c73 (by rw [v0]; decide)) (fun c73 => ?_)
      refine V_iload 78 0 rfl dX10_two_76 rfl ?_
      refine V_iload 80 1 rfl dX10_two_78 rfl ?_
      refine V_iload_n 81 7 rfl rfl dX10_two_80 rfl ?_
      refine V_iload_n 82 8 rfl rfl dX10_two_81 rfl ?_
      refine V_callS (K' := 0) (S' := 0) 85 4 [.int 0, .int 1, .int (nI v), .int y] mkX10_has lkX10_319 rfl (Nat.le_of_ble_eq_true rfl) (Nat.le_of_ble_eq_true rfl) (Nat.le_of_ble_eq_true rfl) (Nat.le_of_ble_eq_true rfl) rfl rfl dX10_two_82 rfl (c_X10_has_01 ?_)
      rw [show haF 0 1 (nI v) y = y from rfl]
      refine Kq_i (k' := 3) (sl' := 18) rfl rfl ?_
      refine V_iconst 86 (1) rfl dX10_two_85 rfl ?_
      refine V_iload 88 0 rfl dX10_two_86 rfl ?_
      refine V_isub 89 dX10_two_88 rfl ?_
      refine V_rw (show _ = (1 : Int32) from by decide) ?_
      refine V_iload 91 1 rfl dX10_two_89 rfl ?_
      refine V_iload_n 92 7 rfl rfl dX10_two_91 rfl ?_
      refine V_iload_n 93 8 rfl rfl dX10_two_92 rfl ?_
      refine V_callS (K' := 0) (S' := 0) 96 4 [.int 1, .int 1, .int (nI v), .int y] mkX10_has lkX10_319 rfl (Nat.le_of_ble_eq_true rfl) (Nat.le_of_ble_eq_true rfl) (Nat.le_of_ble_eq_true rfl) (Nat.le_of_ble_eq_true rfl) rfl rfl dX10_two_93 rfl (c_X10_has_11 ?_)
      rw [show haF 1 1 (nI v) y = y from rfl]
      refine Kq_i (k' := 3) (sl' := 18) rfl rfl ?_
      refine V_icmp_lt 139 99 rfl dX10_two_96 rfl (fun c96 => absurd c96 (Int32.lt_irrefl)) (fun c96 => ?_)
      refine V_iinc 102 3 rfl 3 [(4, .int 3), (9, .int 0), (8, .int 1), (7, .int 2), (6, .int ((nI v) + (nI v))), (5, .int 0), (0, rf G 0), (1, .int (nI v)), (2, .int y), (3, .int 1)] (by decide) (by decide) rfl dX10_two_99 rfl ?_
      refine V_iload 104 5 rfl dX10_two_102 rfl ?_
      refine V_iconst 105 (-1) rfl dX10_two_104 rfl ?_
      refine V_icmp_ne 139 108 rfl dX10_two_105 rfl (fun c105 => ?_) (fun c105 => absurd c105 (by decide))
      refine V_iinc 142 3 rfl 3 [(7, .int 3), (4, .int 3), (9, .int 0), (8, .int 1), (6, .int ((nI v) + (nI v))), (5, .int 0), (0, rf G 0), (1, .int (nI v)), (2, .int y), (3, .int 1)] (by decide) (by decide) rfl dX10_two_139 rfl ?_
      refine V_goto 35 rfl dX10_two_142 ?_
      refine V_iload 37 0 rfl dX10_two_35 rfl ?_
      refine V_iconst 38 (4) rfl dX10_two_37 rfl ?_
      refine V_icmp_ge 145 41 rfl dX10_two_38 rfl (fun c38 => absurd c38 (by decide)) (fun c38 => ?_)
      refine V_iload 43 0 rfl dX10_two_41 rfl ?_
      refine V_iconst 44 (2) rfl dX10_two_43 rfl ?_
      refine V_idiv 45 (by decide) dX10_two_44 rfl ?_
      refine V_rw (show _ = (1 : Int32) from by decide) ?_
      refine V_istore 47 [(8, .int 1), (7, .int 3), (4, .int 3), (9, .int 0), (6, .int ((nI v) + (nI v))), (5, .int 0), (0, rf G 0), (1, .int (nI v)), (2, .int y), (3, .int 1)] (by decide) rfl dX10_two_45 rfl ?_
      refine V_iload 49 1 rfl dX10_two_47 rfl ?_
      refine V_iconst 50 (2) rfl dX10_two_49 rfl ?_
      refine V_irem 51 (by decide) dX10_two_50 rfl ?_
      refine V_rw (show _ = (1 : Int32) from by decide) ?_
      refine V_istore 53 [(9, .int 1), (8, .int 1), (7, .int 3), (4, .int 3), (6, .int ((nI v) + (nI v))), (5, .int 0), (0, rf G 0), (1, .int (nI v)), (2, .int y), (3, .int 1)] (by decide) rfl dX10_two_51 rfl ?_
      refine V_iload 55 1 rfl dX10_two_53 rfl ?_
      refine V_iload 57 0 rfl dX10_two_55 rfl ?_
      refine V_iload_n 58 7 rfl rfl dX10_two_57 rfl ?_
      refine V_iload_n 59 8 rfl rfl dX10_two_58 rfl ?_
      refine V_callS (K' := 0) (S' := 0) 62 4 [.int 1, .int 1, .int (nI v), .int y] mkX10_has lkX10_319 rfl (Nat.le_of_ble_eq_true rfl) (Nat.le_of_ble_eq_true rfl) (Nat.le_of_ble_eq_true rfl) (Nat.le_of_ble_eq_true rfl) rfl rfl dX10_two_59 rfl (c_X10_has_11 ?_)
      rw [show haF 1 1 (nI v) y = y from rfl]
      refine Kq_i (k' := 3) (sl' := 18) rfl rfl ?_
      refine V_iconst 63 (1) rfl dX10_two_62 rfl ?_
      refine V_iload 65 1 rfl dX10_two_63 rfl ?_
      refine V_isub 66 dX10_two_65 rfl ?_
      refine V_rw (show _ = (0 : Int32) from by decide) ?_
      refine V_iload 68 0 rfl dX10_two_66 rfl ?_
      refine V_iload_n 69 7 rfl rfl dX10_two_68 rfl ?_
      refine V_iload_n 70 8 rfl rfl dX10_two_69 rfl ?_
      refine V_callS (K' := 0) (S' := 0) 73 4 [.int 0, .int 1, .int (nI v), .int y] mkX10_has lkX10_319 rfl (Nat.le_of_ble_eq_true rfl) (Nat.le_of_ble_eq_true rfl) (Nat.le_of_ble_eq_true rfl) (Nat.le_of_ble_eq_true rfl) rfl rfl dX10_two_70 rfl (c_X10_has_01 ?_)
      rw [show haF 0 1 (nI v) y = y from rfl]
      refine Kq_i (k' := 3) (sl' := 18) rfl rfl ?_
      refine V_icmp_lt 139 76 rfl dX10_two_73 rfl (fun c73 => absurd c73 (Int32.lt_irrefl)) (fun c73 => ?_)
      refine V_iload 78 0 rfl dX10_two_76 rfl ?_
      refine V_iload 80 1 rfl dX10_two_78 rfl ?_
      refine V_iload_n 81 7 rfl rfl dX10_two_80 rfl ?_
      refine V_iload_n 82 8 rfl rfl dX10_two_81 rfl ?_
      refine V_callS (K' := 0) (S' := 0) 85 4 [.int 1, .int 1, .int (nI v), .int y] mkX10_has lkX10_319 rfl (Nat.le_of_ble_eq_true rfl) (Nat.le_of_ble_eq_true rfl) (Nat.le_of_ble_eq_true rfl) (Nat.le_of_ble_eq_true rfl) rfl rfl dX10_two_82 rfl (c_X10_has_11 ?_)
      rw [show haF 1 1 (nI v) y = y from rfl]
      refine Kq_i (k' := 3) (sl' := 18) rfl rfl ?_
      refine V_iconst 86 (1) rfl dX10_two_85 rfl ?_
      refine V_iload 88 0 rfl dX10_two_86 rfl ?_
      refine V_isub 89 dX10_two_88 rfl ?_
      refine V_rw (show _ = (0 : Int32) from by decide) ?_
      refine V_iload 91 1 rfl dX10_two_89 rfl ?_
      refine V_iload_n 92 7 rfl rfl dX10_two_91 rfl ?_
      refine V_iload_n 93 8 rfl rfl dX10_two_92 rfl ?_
      refine V_callS (K' := 0) (S' := 0) 96 4 [.int 0, .int 1, .int (nI v), .int y] mkX10_has lkX10_319 rfl (Nat.le_of_ble_eq_true rfl) (Nat.le_of_ble_eq_true rfl) (Nat.le_of_ble_eq_true rfl) (Nat.le_of_ble_eq_true rfl) rfl rfl dX10_two_93 rfl (c_X10_has_01 ?_)
      rw [show haF 0 1 (nI v) y = y from rfl]
      refine Kq_i (k' := 3) (sl' := 18) rfl rfl ?_
      refine V_icmp_lt 139 99 rfl dX10_two_96 rfl (fun c96 => absurd c96 (Int32.lt_irrefl)) (fun c96 => ?_)
      refine V_iinc 102 3 rfl 4 [(4, .int 4), (9, .int 1), (8, .int 1), (7, .int 3), (6, .int ((nI v) + (nI v))), (5, .int 0), (0, rf G 0), (1, .int (nI v)), (2, .int y), (3, .int 1)] (by decide) (by decide) rfl dX10_two_99 rfl ?_
      refine V_iload 104 5 rfl dX10_two_102 rfl ?_
      refine V_iconst 105 (-1) rfl dX10_two_104 rfl ?_
      refine V_icmp_ne 139 108 rfl dX10_two_105 rfl (fun c105 => ?_) (fun c105 => absurd c105 (by decide))
      refine V_iinc 142 3 rfl 4 [(7, .int 4), (4, .int 4), (9, .int 1), (8, .int 1), (6, .int ((nI v) + (nI v))), (5, .int 0), (0, rf G 0), (1, .int (nI v)), (2, .int y), (3, .int 1)] (by decide) (by decide) rfl dX10_two_139 rfl ?_
      refine V_goto 35 rfl dX10_two_142 ?_
      refine V_iload 37 0 rfl dX10_two_35 rfl ?_
      refine V_iconst 38 (4) rfl dX10_two_37 rfl ?_
      refine V_icmp_ge 145 41 rfl dX10_two_38 rfl (fun c38 => ?_) (fun c38 => absurd c38 (by decide))
      refine V_iload_n 146 9 rfl rfl dX10_two_145 rfl ?_
      refine V_if_ne 154 149 rfl dX10_two_146 rfl (fun c146 => ?_) (fun c146 => absurd c146 (by decide))
      refine V_iload_n 155 9 rfl rfl dX10_two_154 rfl ?_
      refine V_iconst 156 (1) rfl dX10_two_155 rfl ?_
      refine V_icmp_ne 164 159 rfl dX10_two_156 rfl (fun c156 => absurd c156 (by decide)) (fun c156 => ?_)
      refine V_iload 161 5 rfl dX10_two_159 rfl ?_
      refine V_goto 166 rfl dX10_two_161 ?_
      refine V_ret_i rfl rfl (Nat.le_of_ble_eq_true rfl) (fun h => absurd h (by decide)) (Nat.le_of_ble_eq_true rfl) (hq I FrQ.rf) dX10_two_166
    · rw [show twF (nI v) 1 = 0 from rfl] at hq
      show V _ _ _ _ _ _ _ _ [(0, rf G 0), (1, .int (nI v)), (2, .int y), (3, .int 1)] [] _ _ _ _ _
      refine V_iconst 24 (0) rfl dX10_two_23 rfl ?_
      refine V_istore 26 [(4, .int 0), (0, rf G 0), (1, .int (nI v)), (2, .int y), (3, .int 1)] (by decide) rfl dX10_two_24 rfl ?_
      refine V_iconst 27 (-1) rfl dX10_two_26 rfl ?_
      refine V_istore 29 [(5, .int (-1)), (4, .int 0), (0, rf G 0), (1, .int (nI v)), (2, .int y), (3, .int 1)] (by decide) rfl dX10_two_27 rfl ?_
      refine V_iconst 30 (0) rfl dX10_two_29 rfl ?_
      refine V_istore 32 [(6, .int 0), (5, .int (-1)), (4, .int 0), (0, rf G 0), (1, .int (nI v)), (2, .int y), (3, .int 1)] (by decide) rfl dX10_two_30 rfl ?_
      refine V_iconst 33 (0) rfl dX10_two_32 rfl ?_
      refine V_istore 35 [(7, .int 0), (6, .int 0), (5, .int (-1)), (4, .int 0), (0, rf G 0), (1, .int (nI v)), (2, .int y), (3, .int 1)] (by decide) rfl dX10_two_33 rfl ?_
      refine V_iload 37 0 rfl dX10_two_35 rfl ?_
      refine V_iconst 38 (4) rfl dX10_two_37 rfl ?_
      refine V_icmp_ge 145 41 rfl dX10_two_38 rfl (fun c38 => absurd c38 (by decide)) (fun c38 => ?_)
      refine V_iload 43 0 rfl dX10_two_41 rfl ?_
      refine V_iconst 44 (2) rfl dX10_two_43 rfl ?_
      refine V_idiv 45 (by decide) dX10_two_44 rfl ?_
      refine V_rw (show _ = (0 : Int32) from by decide) ?_
      refine V_istore 47 [(8, .int 0), (7, .int 0), (6, .int 0), (5, .int (-1)), (4, .int 0), (0, rf G 0), (1, .int (nI v)), (2, .int y), (3, .int 1)] (by decide) rfl dX10_two_45 rfl ?_
      refine V_iload 49 1 rfl dX10_two_47 rfl ?_
      refine V_iconst 50 (2) rfl dX10_two_49 rfl ?_
      refine V_irem 51 (by decide) dX10_two_50 rfl ?_
      refine V_rw (show _ = (0 : Int32) from by decide) ?_
      refine V_istore 53 [(9, .int 0), (8, .int 0), (7, .int 0), (6, .int 0), (5, .int (-1)), (4, .int 0), (0, rf G 0), (1, .int (nI v)), (2, .int y), (3, .int 1)] (by decide) rfl dX10_two_51 rfl ?_
      refine V_iload 55 1 rfl dX10_two_53 rfl ?_
      refine V_iload 57 0 rfl dX10_two_55 rfl ?_
      refine V_iload_n 58 7 rfl rfl dX10_two_57 rfl ?_
      refine V_iload_n 59 8 rfl rfl dX10_two_58 rfl ?_
      refine V_callS (K' := 0) (S' := 0) 62 4 [.int 0, .int 0, .int (nI v), .int y] mkX10_has lkX10_319 rfl (Nat.le_of_ble_eq_true rfl) (Nat.le_of_ble_eq_true rfl) (Nat.le_of_ble_eq_true rfl) (Nat.le_of_ble_eq_true rfl) rfl rfl dX10_two_59 rfl (c_X10_has_00 ?_)
      rw [show haF 0 0 (nI v) y = nI v from rfl]
      refine Kq_i (k' := 3) (sl' := 18) rfl rfl ?_
      refine V_iconst 63 (1) rfl dX10_two_62 rfl ?_
      refine V_iload 65 1 rfl dX10_two_63 rfl ?_
      refine V_isub 66 dX10_two_65 rfl ?_
      refine V_rw (show _ = (1 : Int32) from by decide) ?_
      refine V_iload 68 0 rfl dX10_two_66 rfl ?_
      refine V_iload_n 69 7 rfl rfl dX10_two_68 rfl ?_
      refine V_iload_n 70 8 rfl rfl dX10_two_69 rfl ?_
      refine V_callS (K' := 0) (S' := 0) 73 4 [.int 1, .int 0, .int (nI v), .int y] mkX10_has lkX10_319 rfl (Nat.le_of_ble_eq_true rfl) (Nat.le_of_ble_eq_true rfl) (Nat.le_of_ble_eq_true rfl) (Nat.le_of_ble_eq_true rfl) rfl rfl dX10_two_70 rfl (c_X10_has_10 ?_)
      rw [show haF 1 0 (nI v) y = nI v / 2 from rfl]
      refine Kq_i (k' := 3) (sl' := 18) rfl rfl ?_
      refine V_icmp_lt 139 76 rfl dX10_two_73 rfl (fun c73 => absurd c73 (half_le v hv)) (fun c73 => ?_)
      refine V_iload 78 0 rfl dX10_two_76 rfl ?_
      refine V_iload 80 1 rfl dX10_two_78 rfl ?_
      refine V_iload_n 81 7 rfl rfl dX10_two_80 rfl ?_
      refine V_iload_n 82 8 rfl rfl dX10_two_81 rfl ?_
      refine V_callS (K' := 0) (S' := 0) 85 4 [.int 0, .int 0, .int (nI v), .int y] mkX10_has lkX10_319 rfl (Nat.le_of_ble_eq_true rfl) (Nat.le_of_ble_eq_true rfl) (Nat.le_of_ble_eq_true rfl) (Nat.le_of_ble_eq_true rfl) rfl rfl dX10_two_82 rfl (c_X10_has_00 ?_)
      rw [show haF 0 0 (nI v) y = nI v from rfl]
      refine Kq_i (k' := 3) (sl' := 18) rfl rfl ?_
      refine V_iconst 86 (1) rfl dX10_two_85 rfl ?_
      refine V_iload 88 0 rfl dX10_two_86 rfl ?_
      refine V_isub 89 dX10_two_88 rfl ?_
      refine V_rw (show _ = (1 : Int32) from by decide) ?_
      refine V_iload 91 1 rfl dX10_two_89 rfl ?_
      refine V_iload_n 92 7 rfl rfl dX10_two_91 rfl ?_
      refine V_iload_n 93 8 rfl rfl dX10_two_92 rfl ?_
      refine V_callS (K' := 0) (S' := 0) 96 4 [.int 1, .int 0, .int (nI v), .int y] mkX10_has lkX10_319 rfl (Nat.le_of_ble_eq_true rfl) (Nat.le_of_ble_eq_true rfl) (Nat.le_of_ble_eq_true rfl) (Nat.le_of_ble_eq_true rfl) rfl rfl dX10_two_93 rfl (c_X10_has_10 ?_)
      rw [show haF 1 0 (nI v) y = nI v / 2 from rfl]
      refine Kq_i (k' := 3) (sl' := 18) rfl rfl ?_
      refine V_icmp_lt 139 99 rfl dX10_two_96 rfl (fun c96 => absurd c96 (half_le v hv)) (fun c96 => ?_)
      refine V_iinc 102 5 rfl 1 [(4, .int 1), (9, .int 0), (8, .int 0), (7, .int 0), (6, .int 0), (5, .int (-1)), (0, rf G 0), (1, .int (nI v)), (2, .int y), (3, .int 1)] (by decide) (by decide) rfl dX10_two_99 rfl ?_
      refine V_iload 104 5 rfl dX10_two_102 rfl ?_
      refine V_iconst 105 (-1) rfl dX10_two_104 rfl ?_
      refine V_icmp_ne 139 108 rfl dX10_two_105 rfl (fun c105 => absurd c105 (by decide)) (fun c105 => ?_)
      refine V_bipush 110 (10) rfl dX10_two_108 rfl ?_
      refine V_iload 112 2 rfl dX10_two_110 rfl ?_
      refine V_imul 113 dX10_two_112 rfl ?_
      refine V_rw (show _ = (0 : Int32) from by decide) ?_
      refine V_iload 115 1 rfl dX10_two_113 rfl ?_
      refine V_iadd 116 dX10_two_115 rfl ?_
      refine V_rw (show _ = (0 : Int32) from by decide) ?_
      refine V_istore 118 [(5, .int 0), (4, .int 1), (9, .int 0), (8, .int 0), (7, .int 0), (6, .int 0), (0, rf G 0), (1, .int (nI v)), (2, .int y), (3, .int 1)] (by decide) rfl dX10_two_116 rfl ?_
      refine V_iload 120 3 rfl dX10_two_118 rfl ?_
      refine V_iload 122 2 rfl dX10_two_120 rfl ?_
      refine V_iload_n 123 7 rfl rfl dX10_two_122 rfl ?_
      refine V_iload_n 124 8 rfl rfl dX10_two_123 rfl ?_
      refine V_callS (K' := 0) (S' := 0) 127 4 [.int 0, .int 0, .int (nI v), .int y] mkX10_has lkX10_319 rfl (Nat.le_of_ble_eq_true rfl) (Nat.le_of_ble_eq_true rfl) (Nat.le_of_ble_eq_true rfl) (Nat.le_of_ble_eq_true rfl) rfl rfl dX10_two_124 rfl (c_X10_has_00 ?_)
      rw [show haF 0 0 (nI v) y = nI v from rfl]
      refine Kq_i (k' := 3) (sl' := 18) rfl rfl ?_
      refine V_iload 129 2 rfl dX10_two_127 rfl ?_
      refine V_iload 131 3 rfl dX10_two_129 rfl ?_
      refine V_iload_n 132 7 rfl rfl dX10_two_131 rfl ?_
      refine V_iload_n 133 8 rfl rfl dX10_two_132 rfl ?_
      refine V_callS (K' := 0) (S' := 0) 136 4 [.int 0, .int 0, .int (nI v), .int y] mkX10_has lkX10_319 rfl (Nat.le_of_ble_eq_true rfl) (Nat.le_of_ble_eq_true rfl) (Nat.le_of_ble_eq_true rfl) (Nat.le_of_ble_eq_true rfl) rfl rfl dX10_two_133 rfl (c_X10_has_00 ?_)
      rw [show haF 0 0 (nI v) y = nI v from rfl]
      refine Kq_i (k' := 3) (sl' := 18) rfl rfl ?_
      refine V_iadd 137 dX10_two_136 rfl ?_
      refine V_istore 139 [(6, .int ((nI v) + (nI v))), (5, .int 0), (4, .int 1), (9, .int 0), (8, .int 0), (7, .int 0), (0, rf G 0), (1, .int (nI v)), (2, .int y), (3, .int 1)] (by decide) rfl dX10_two_137 rfl ?_
      refine V_iinc 142 5 rfl 1 [(7, .int 1), (6, .int ((nI v) + (nI v))), (5, .int 0), (4, .int 1), (9, .int 0), (8, .int 0), (0, rf G 0), (1, .int (nI v)), (2, .int y), (3, .int 1)] (by decide) (by decide) rfl dX10_two_139 rfl ?_
      refine V_goto 35 rfl dX10_two_142 ?_
      refine V_iload 37 0 rfl dX10_two_35 rfl ?_
      refine V_iconst 38 (4) rfl dX10_two_37 rfl ?_
      refine V_icmp_ge 145 41 rfl dX10_two_38 rfl (fun c38 => absurd c38 (by decide)) (fun c38 => ?_)
      refine V_iload 43 0 rfl dX10_two_41 rfl ?_
      refine V_iconst 44 (2) rfl dX10_two_43 rfl ?_
      refine V_idiv 45 (by decide) dX10_two_44 rfl ?_
      refine V_rw (show _ = (0 : Int32) from by decide) ?_
      refine V_istore 47 [(8, .int 0), (7, .int 1), (6, .int ((nI v) + (nI v))), (5, .int 0), (4, .int 1), (9, .int 0), (0, rf G 0), (1, .int (nI v)), (2, .int y), (3, .int 1)] (by decide) rfl dX10_two_45 rfl ?_
      refine V_iload 49 1 rfl dX10_two_47 rfl ?_
      refine V_iconst 50 (2) rfl dX10_two_49 rfl ?_
      refine V_irem 51 (by decide) dX10_two_50 rfl ?_
      refine V_rw (show _ = (1 : Int32) from by decide) ?_
      refine V_istore 53 [(9, .int 1), (8, .int 0), (7, .int 1), (6, .int ((nI v) + (nI v))), (5, .int 0), (4, .int 1), (0, rf G 0), (1, .int (nI v)), (2, .int y), (3, .int 1)] (by decide) rfl dX10_two_51 rfl ?_
      refine V_iload 55 1 rfl dX10_two_53 rfl ?_
      refine V_iload 57 0 rfl dX10_two_55 rfl ?_
      refine V_iload_n 58 7 rfl rfl dX10_two_57 rfl ?_
      refine V_iload_n 59 8 rfl rfl dX10_two_58 rfl ?_
      refine V_callS (K' := 0) (S' := 0) 62 4 [.int 0, .int 1, .int (nI v), .int y] mkX10_has lkX10_319 rfl (Nat.le_of_ble_eq_true rfl) (Nat.le_of_ble_eq_true rfl) (Nat.le_of_ble_eq_true rfl) (Nat.le_of_ble_eq_true rfl) rfl rfl dX10_two_59 rfl (c_X10_has_01 ?_)
      rw [show haF 0 1 (nI v) y = y from rfl]
      refine Kq_i (k' := 3) (sl' := 18) rfl rfl ?_
      refine V_iconst 63 (1) rfl dX10_two_62 rfl ?_
      refine V_iload 65 1 rfl dX10_two_63 rfl ?_
      refine V_isub 66 dX10_two_65 rfl ?_
      refine V_rw (show _ = (1 : Int32) from by decide) ?_
      refine V_iload 68 0 rfl dX10_two_66 rfl ?_
      refine V_iload_n 69 7 rfl rfl dX10_two_68 rfl ?_
      refine V_iload_n 70 8 rfl rfl dX10_two_69 rfl ?_
      refine V_callS (K' := 0) (S' := 0) 73 4 [.int 1, .int 1, .int (nI v), .int y] mkX10_has lkX10_319 rfl (Nat.le_of_ble_eq_true rfl) (Nat.le_of_ble_eq_true rfl) (Nat.le_of_ble_eq_true rfl) (Nat.le_of_ble_eq_true rfl) rfl rfl dX10_two_70 rfl (c_X10_has_11 ?_)
      rw [show haF 1 1 (nI v) y = y from rfl]
      refine Kq_i (k' := 3) (sl' := 18) rfl rfl ?_
      refine V_icmp_lt 139 76 rfl dX10_two_73 rfl (fun c73 => absurd c73 (Int32.lt_irrefl)) (fun c73 => ?_)
      refine V_iload 78 0 rfl dX10_two_76 rfl ?_
      refine V_iload 80 1 rfl dX10_two_78 rfl ?_
      refine V_iload_n 81 7 rfl rfl dX10_two_80 rfl ?_
      refine V_iload_n 82 8 rfl rfl dX10_two_81 rfl ?_
      refine V_callS (K' := 0) (S' := 0) 85 4 [.int 1, .int 0, .int (nI v), .int y] mkX10_has lkX10_319 rfl (Nat.le_of_ble_eq_true rfl) (Nat.le_of_ble_eq_true rfl) (Nat.le_of_ble_eq_true rfl) (Nat.le_of_ble_eq_true rfl) rfl rfl dX10_two_82 rfl (c_X10_has_10 ?_)
      rw [show haF 1 0 (nI v) y = nI v / 2 from rfl]
      refine Kq_i (k' := 3) (sl' := 18) rfl rfl ?_
      refine V_iconst 86 (1) rfl dX10_two_85 rfl ?_
      refine V_iload 88 0 rfl dX10_two_86 rfl ?_
      refine V_isub 89 dX10_two_88 rfl ?_
      refine V_rw (show _ = (0 : Int32) from by decide) ?_
      refine V_iload 91 1 rfl dX10_two_89 rfl ?_
      refine V_iload_n 92 7 rfl rfl dX10_two_91 rfl ?_
      refine V_iload_n 93 8 rfl rfl dX10_two_92 rfl ?_
      refine V_callS (K' := 0) (S' := 0) 96 4 [.int 0, .int 0, .int (nI v), .int y] mkX10_has lkX10_319 rfl (Nat.le_of_ble_eq_true rfl) (Nat.le_of_ble_eq_true rfl) (Nat.le_of_ble_eq_true rfl) (Nat.le_of_ble_eq_true rfl) rfl rfl dX10_two_93 rfl (c_X10_has_00 ?_)
      rw [show haF 0 0 (nI v) y = nI v from rfl]
      refine Kq_i (k' := 3) (sl' := 18) rfl rfl ?_
      refine V_icmp_lt 139 99 rfl dX10_two_96 rfl (fun c96 => ?_) (fun c96 => absurd (half_lt v hv v0) c96)
      refine V_iinc 142 2 rfl 2 [(7, .int 2), (9, .int 1), (8, .int 0), (6, .int ((nI v) + (nI v))), (5, .int 0), (4, .int 1), (0, rf G 0), (1, .int (nI v)), (2, .int y), (3, .int 1)] (by decide) (by decide) rfl dX10_two_139 rfl ?_
      refine V_goto 35 rfl dX10_two_142 ?_
      refine V_iload 37 0 rfl dX10_two_35 rfl ?_
      refine V_iconst 38 (4) rfl dX10_two_37 rfl ?_
      refine V_icmp_ge 145 41 rfl dX10_two_38 rfl (fun c38 => absurd c38 (by decide)) (fun c38 => ?_)
      refine V_iload 43 0 rfl dX10_two_41 rfl ?_
      refine V_iconst 44 (2) rfl dX10_two_43 rfl ?_
      refine V_idiv 45 (by decide) dX10_two_44 rfl ?_
      refine V_rw (show _ = (1 : Int32) from by decide) ?_
      refine V_istore 47 [(8, .int 1), (7, .int 2), (9, .int 1), (6, .int ((nI v) + (nI v))), (5, .int 0), (4, .int 1), (0, rf G 0), (1, .int (nI v)), (2, .int y), (3, .int 1)] (by decide) rfl dX10_two_45 rfl ?_
      refine V_iload 49 1 rfl dX10_two_47 rfl ?_
      refine V_iconst 50 (2) rfl dX10_two_49 rfl ?_
      refine V_irem 51 (by decide) dX10_two_50 rfl ?_
      refine V_rw (show _ = (0 : Int32) from by decide) ?_
      refine V_istore 53 [(9, .int 0), (8, .int 1), (7, .int 2), (6, .int ((nI v) + (nI v))), (5, .int 0), (4, .int 1), (0, rf G 0), (1, .int (nI v)), (2, .int y), (3, .int 1)] (by decide) rfl dX10_two_51 rfl ?_
      refine V_iload 55 1 rfl dX10_two_53 rfl ?_
      refine V_iload 57 0 rfl dX10_two_55 rfl ?_
      refine V_iload_n 58 7 rfl rfl dX10_two_57 rfl ?_
      refine V_iload_n 59 8 rfl rfl dX10_two_58 rfl ?_
      refine V_callS (K' := 0) (S' := 0) 62 4 [.int 1, .int 0, .int (nI v), .int y] mkX10_has lkX10_319 rfl (Nat.le_of_ble_eq_true rfl) (Nat.le_of_ble_eq_true rfl) (Nat.le_of_ble_eq_true rfl) (Nat.le_of_ble_eq_true rfl) rfl rfl dX10_two_59 rfl (c_X10_has_10 ?_)
      rw [show haF 1 0 (nI v) y = nI v / 2 from rfl]
      refine Kq_i (k' := 3) (sl' := 18) rfl rfl ?_
      refine V_iconst 63 (1) rfl dX10_two_62 rfl ?_
      refine V_iload 65 1 rfl dX10_two_63 rfl ?_
      refine V_isub 66 dX10_two_65 rfl ?_
      refine V_rw (show _ = (0 : Int32) from by decide) ?_
      refine V_iload 68 0 rfl dX10_two_66 rfl ?_
      refine V_iload_n 69 7 rfl rfl dX10_two_68 rfl ?_
      refine V_iload_n 70 8 rfl rfl dX10_two_69 rfl ?_
      refine V_callS (K' := 0) (S' := 0) 73 4 [.int 0, .int 0, .int (nI v), .int y] mkX10_has lkX10_319 rfl (Nat.le_of_ble_eq_true rfl) (Nat.le_of_ble_eq_true rfl) (Nat.le_of_ble_eq_true rfl) (Nat.le_of_ble_eq_true rfl) rfl rfl dX10_two_70 rfl (c_X10_has_00 ?_)
      rw [show haF 0 0 (nI v) y = nI v from rfl]
      refine Kq_i (k' := 3) (sl' := 18) rfl rfl ?_
      refine V_icmp_lt 139 76 rfl dX10_two_73 rfl (fun c73 => ?_) (fun c73 => absurd (half_lt v hv v0) c73)
      refine V_iinc 142 2 rfl 3 [(7, .int 3), (9, .int 0), (8, .int 1), (6, .int ((nI v) + (nI v))), (5, .int 0), (4, .int 1), (0, rf G 0), (1, .int (nI v)), (2, .int y), (3, .int 1)] (by decide) (by decide) rfl dX10_two_139 rfl ?_
      refine V_goto 35 rfl dX10_two_142 ?_
      refine V_iload 37 0 rfl dX10_two_35 rfl ?_
      refine V_iconst 38 (4) rfl dX10_two_37 rfl ?_
      refine V_icmp_ge 145 41 rfl dX10_two_38 rfl (fun c38 => absurd c38 (by decide)) (fun c38 => ?_)
      refine V_iload 43 0 rfl dX10_two_41 rfl ?_
      refine V_iconst 44 (2) rfl dX10_two_43 rfl ?_
      refine V_idiv 45 (by decide) dX10_two_44 rfl ?_
      refine V_rw (show _ = (1 : Int32) from by decide) ?_
      refine V_istore 47 [(8, .int 1), (7, .int 3), (9, .int 0), (6, .int ((nI v) + (nI v))), (5, .int 0), (4, .int 1), (0, rf G 0), (1, .int (nI v)), (2, .int y), (3, .int 1)] (by decide) rfl dX10_two_45 rfl ?_
      refine V_iload 49 1 rfl dX10_two_47 rfl ?_
      refine V_iconst 50 (2) rfl dX10_two_49 rfl ?_
      refine V_irem 51 (by decide) dX10_two_50 rfl ?_
      refine V_rw (show _ = (1 : Int32) from by decide) ?_
      refine V_istore 53 [(9, .int 1), (8, .int 1), (7, .int 3), (6, .int ((nI v) + (nI v))), (5, .int 0), (4, .int 1), (0, rf G 0), (1, .int (nI v)), (2, .int y), (3, .int 1)] (by decide) rfl dX10_two_51 rfl ?_
      refine V_iload 55 1 rfl dX10_two_53 rfl ?_
      refine V_iload 57 0 rfl dX10_two_55 rfl ?_
      refine V_iload_n 58 7 rfl rfl dX10_two_57 rfl ?_
      refine V_iload_n 59 8 rfl rfl dX10_two_58 rfl ?_
      refine V_callS (K' := 0) (S' := 0) 62 4 [.int 1, .int 1, .int (nI v), .int y] mkX10_has lkX10_319 rfl (Nat.le_of_ble_eq_true rfl) (Nat.le_of_ble_eq_true rfl) (Nat.le_of_ble_eq_true rfl) (Nat.le_of_ble_eq_true rfl) rfl rfl dX10_two_59 rfl (c_X10_has_11 ?_)
      rw [show haF 1 1 (nI v) y = y from rfl]
      refine Kq_i (k' := 3) (sl' := 18) rfl rfl ?_
      refine V_iconst 63 (1) rfl dX10_two_62 rfl ?_
      refine V_iload 65 1 rfl dX10_two_63 rfl ?_
      refine V_isub 66 dX10_two_65 rfl ?_
      refine V_rw (show _ = (0 : Int32) from by decide) ?_
      refine V_iload 68 0 rfl dX10_two_66 rfl ?_
      refine V_iload_n 69 7 rfl rfl dX10_two_68 rfl ?_
      refine V_iload_n 70 8 rfl rfl dX10_two_69 rfl ?_
      refine V_callS (K' := 0) (S' := 0) 73 4 [.int 0, .int 1, .int (nI v), .int y] mkX10_has lkX10_319 rfl (Nat.le_of_ble_eq_true rfl) (Nat.le_of_ble_eq_true rfl) (Nat.le_of_ble_eq_true rfl) (Nat.le_of_ble_eq_true rfl) rfl rfl dX10_two_70 rfl (c_X10_has_01 ?_)
      rw [show haF 0 1 (nI v) y = y from rfl]
      refine Kq_i (k' := 3) (sl' := 18) rfl rfl ?_
      refine V_icmp_lt 139 76 rfl dX10_two_73 rfl (fun c73 => absurd c73 (Int32.lt_irrefl)) (fun c73 => ?_)
      refine V_iload 78 0 rfl dX10_two_76 rfl ?_
      refine V_iload 80 1 rfl dX10_two_78 rfl ?_
      refine V_iload_n 81 7 rfl rfl dX10_two_80 rfl ?_
      refine V_iload_n 82 8 rfl rfl dX10_two_81 rfl ?_
      refine V_callS (K' := 0) (S' := 0) 85 4 [.int 1, .int 1, .int (nI v), .int y] mkX10_has lkX10_319 rfl (Nat.le_of_ble_eq_true rfl) (Nat.le_of_ble_eq_true rfl) (Nat.le_of_ble_eq_true rfl) (Nat.le_of_ble_eq_true rfl) rfl rfl dX10_two_82 rfl (c_X10_has_11 ?_)
      rw [show haF 1 1 (nI v) y = y from rfl]
      refine Kq_i (k' := 3) (sl' := 18) rfl rfl ?_
      refine V_iconst 86 (1) rfl dX10_two_85 rfl ?_
      refine V_iload 88 0 rfl dX10_two_86 rfl ?_
      refine V_isub 89 dX10_two_88 rfl ?_
      refine V_rw (show _ = (0 : Int32) from by decide) ?_
      refine V_iload 91 1 rfl dX10_two_89 rfl ?_
      refine V_iload_n 92 7 rfl rfl dX10_two_91 rfl ?_
      refine V_iload_n 93 8 rfl rfl dX10_two_92 rfl ?_
      refine V_callS (K' := 0) (S' := 0) 96 4 [.int 0, .int 1, .int (nI v), .int y] mkX10_has lkX10_319 rfl (Nat.le_of_ble_eq_true rfl) (Nat.le_of_ble_eq_true rfl) (Nat.le_of_ble_eq_true rfl) (Nat.le_of_ble_eq_true rfl) rfl rfl dX10_two_93 rfl (c_X10_has_01 ?_)
      rw [show haF 0 1 (nI v) y = y from rfl]
      refine Kq_i (k' := 3) (sl' := 18) rfl rfl ?_
      refine V_icmp_lt 139 99 rfl dX10_two_96 rfl (fun c96 => absurd c96 (Int32.lt_irrefl)) (fun c96 => ?_)
      refine V_iinc 102 5 rfl 2 [(4, .int 2), (9, .int 1), (8, .int 1), (7, .int 3), (6, .int ((nI v) + (nI v))), (5, .int 0), (0, rf G 0), (1, .int (nI v)), (2, .int y), (3, .int 1)] (by decide) (by decide) rfl dX10_two_99 rfl ?_
      refine V_iload 104 5 rfl dX10_two_102 rfl ?_
      refine V_iconst 105 (-1) rfl dX10_two_104 rfl ?_
      refine V_icmp_ne 139 108 rfl dX10_two_105 rfl (fun c105 => ?_) (fun c105 => absurd c105 (by decide))
      refine V_iinc 142 3 rfl 4 [(7, .int 4), (4, .int 2), (9, .int 1), (8, .int 1), (6, .int ((nI v) + (nI v))), (5, .int 0), (0, rf G 0), (1, .int (nI v)), (2, .int y), (3, .int 1)] (by decide) (by decide) rfl dX10_two_139 rfl ?_
      refine V_goto 35 rfl dX10_two_142 ?_
      refine V_iload 37 0 rfl dX10_two_35 rfl ?_
      refine V_iconst 38 (4) rfl dX10_two_37 rfl ?_
      refine V_icmp_ge 145 41 rfl dX10_two_38 rfl (fun c38 => ?_) (fun c38 => absurd c38 (by decide))
      refine V_iload_n 146 9 rfl rfl dX10_two_145 rfl ?_
      refine V_if_ne 154 149 rfl dX10_two_146 rfl (fun c146 => ?_) (fun c146 => absurd c146 (by decide))
      refine V_iload_n 155 9 rfl rfl dX10_two_154 rfl ?_
      refine V_iconst 156 (1) rfl dX10_two_155 rfl ?_
      refine V_icmp_ne 164 159 rfl dX10_two_156 rfl (fun c156 => absurd c156 (by decide)) (fun c156 => ?_)
      refine V_iload 161 5 rfl dX10_two_159 rfl ?_
      refine V_goto 166 rfl dX10_two_161 ?_
      refine V_ret_i rfl rfl (Nat.le_of_ble_eq_true rfl) (fun h => absurd h (by decide)) (Nat.le_of_ble_eq_true rfl) (hq I FrQ.rf) dX10_two_166
  · by_cases v0 : v = 0
    · rw [show twF (nI v) 2 = nI v + nI v from rfl] at hq
      show V _ _ _ _ _ _ _ _ [(0, rf G 0), (1, .int (nI v)), (2, .int y), (3, .int 2)] [] _ _ _ _ _
      refine V_iconst 24 (0) rfl dX10_two_23 rfl ?_
      refine V_istore 26 [(4, .int 0), (0, rf G 0), (1, .int (nI v)), (2, .int y), (3, .int 2)] (by decide) rfl dX10_two_24 rfl ?_
      refine V_iconst 27 (-1) rfl dX10_two_26 rfl ?_
      refine V_istore 29 [(5, .int (-1)), (4, .int 0), (0, rf G 0), (1, .int (nI v)), (2, .int y), (3, .int 2)] (by decide) rfl dX10_two_27 rfl ?_
      refine V_iconst 30 (0) rfl dX10_two_29 rfl ?_
      refine V_istore 32 [(6, .int 0), (5, .int (-1)), (4, .int 0), (0, rf G 0), (1, .int (nI v)), (2, .int y), (3, .int 2)] (by decide) rfl dX10_two_30 rfl ?_
      refine V_iconst 33 (0) rfl dX10_two_32 rfl ?_
      refine V_istore 35 [(7, .int 0), (6, .int 0), (5, .int (-1)), (4, .int 0), (0, rf G 0), (1, .int (nI v)), (2, .int y), (3, .int 2)] (by decide) rfl dX10_two_33 rfl ?_
      refine V_iload 37 0 rfl dX10_two_35 rfl ?_
      refine V_iconst 38 (4) rfl dX10_two_37 rfl ?_
      refine V_icmp_ge 145 41 rfl dX10_two_38 rfl (fun c38 => absurd c38 (by decide)) (fun c38 => ?_)
      refine V_iload 43 0 rfl dX10_two_41 rfl ?_
      refine V_iconst 44 (2) rfl dX10_two_43 rfl ?_
      refine V_idiv 45 (by decide) dX10_two_44 rfl ?_
      refine V_rw (show _ = (0 : Int32) from by decide) ?_
      refine V_istore 47 [(8, .int 0), (7, .int 0), (6, .int 0), (5, .int (-1)), (4, .int 0), (0, rf G 0), (1, .int (nI v)), (2, .int y), (3, .int 2)] (by decide) rfl dX10_two_45 rfl ?_
      refine V_iload 49 1 rfl dX10_two_47 rfl ?_
      refine V_iconst 50 (2) rfl dX10_two_49 rfl ?_
      refine V_irem 51 (by decide) dX10_two_50 rfl ?_
      refine V_rw (show _ = (0 : Int32) from by decide) ?_
      refine V_istore 53 [(9, .int 0), (8, .int 0), (7, .int 0), (6, .int 0), (5, .int (-1)), (4, .int 0), (0, rf G 0), (1, .int (nI v)), (2, .int y), (3, .int 2)] (by decide) rfl dX10_two_51 rfl ?_
      refine V_iload 55 1 rfl dX10_two_53 rfl ?_
      refine V_iload 57 0 rfl dX10_two_55 rfl ?_
      refine V_iload_n 58 7 rfl rfl dX10_two_57 rfl ?_
      refine V_iload_n 59 8 rfl rfl dX10_two_58 rfl ?_
      refine V_callS (K' := 0) (S' := 0) 62 4 [.int 0, .int 0, .int (nI v), .int y] mkX10_has lkX10_319 rfl (Nat.le_of_ble_eq_true rfl) (Nat.le_of_ble_eq_true rfl) (Nat.le_of_ble_eq_true rfl) (Nat.le_of_ble_eq_true rfl) rfl rfl dX10_two_59 rfl (c_X10_has_00 ?_)
      rw [show haF 0 0 (nI v) y = nI v from rfl]
      refine Kq_i (k' := 3) (sl' := 18) rfl rfl ?_
      refine V_iconst 63 (1) rfl dX10_two_62 rfl ?_
      refine V_iload 65 1 rfl dX10_two_63 rfl ?_
      refine V_isub 66 dX10_two_65 rfl ?_
      refine V_rw (show _ = (1 : Int32) from by decide) ?_
      refine V_iload 68 0 rfl dX10_two_66 rfl ?_
      refine V_iload_n 69 7 rfl rfl dX10_two_68 rfl ?_
      refine V_iload_n 70 8 rfl rfl dX10_two_69 rfl ?_
      refine V_callS (K' := 0) (S' := 0) 73 4 [.int 1, .int 0, .int (nI v), .int y] mkX10_has lkX10_319 rfl (Nat.le_of_ble_eq_true rfl) (Nat.le_of_ble_eq_true rfl) (Nat.le_of_ble_eq_true rfl) (Nat.le_of_ble_eq_true rfl) rfl rfl dX10_two_70 rfl (c_X10_has_10 ?_)
      rw [show haF 1 0 (nI v) y = nI v / 2 from rfl]
      refine Kq_i (k' := 3) (sl' := 18) rfl rfl ?_
      refine V_icmp_lt 139 76 rfl dX10_two_73 rfl (fun c73 => absurd c73 (half_le v hv)) (fun c73 => ?_)
      refine V_iload 78 0 rfl dX10_two_76 rfl ?_
      refine V_iload 80 1 rfl dX10_two_78 rfl ?_
      refine V_iload_n 81 7 rfl rfl dX10_two_80 rfl ?_
      refine V_iload_n 82 8 rfl rfl dX10_two_81 rfl ?_
      refine V_callS (K' := 0) (S' := 0) 85 4 [.int 0, .int 0, .int (nI v), .int y] mkX10_has lkX10_319 rfl (Nat.le_of_ble_eq_true rfl) (Nat.le_of_ble_eq_true rfl) (Nat.le_of_ble_eq_true rfl) (Nat.le_of_ble_eq_true rfl) rfl rfl dX10_two_82 rfl (c_X10_has_00 ?_)
      rw [show haF 0 0 (nI v) y = nI v from rfl]
      refine Kq_i (k' := 3) (sl' := 18) rfl rfl ?_
      refine V_iconst 86 (1) rfl dX10_two_85 rfl ?_
      refine V_iload 88 0 rfl dX10_two_86 rfl ?_
      refine V_isub 89 dX10_two_88 rfl ?_
      refine V_rw (show _ = (1 : Int32) from by decide) ?_
      refine V_iload 91 1 rfl dX10_two_89 rfl ?_
      refine V_iload_n 92 7 rfl rfl dX10_two_91 rfl ?_
      refine V_iload_n 93 8 rfl rfl dX10_two_92 rfl ?_
      refine V_callS (K' := 0) (S' := 0) 96 4 [.int 1, .int 0, .int (nI v), .int y] mkX10_has lkX10_319 rfl (Nat.le_of_ble_eq_true rfl) (Nat.le_of_ble_eq_true rfl) (Nat.le_of_ble_eq_true rfl) (Nat.le_of_ble_eq_true rfl) rfl rfl dX10_two_93 rfl (c_X10_has_10 ?_)
      rw [show haF 1 0 (nI v) y = nI v / 2 from rfl]
      refine Kq_i (k' := 3) (sl' := 18) rfl rfl ?_
      refine V_icmp_lt 139 99 rfl dX10_two_96 rfl (fun c96 => absurd c96 (half_le v hv)) (fun c96 => ?_)
      refine V_iinc 102 5 rfl 1 [(4, .int 1), (9, .int 0), (8, .int 0), (7, .int 0), (6, .int 0), (5, .int (-1)), (0, rf G 0), (1, .int (nI v)), (2, .int y), (3, .int 2)] (by decide) (by decide) rfl dX10_two_99 rfl ?_
      refine V_iload 104 5 rfl dX10_two_102 rfl ?_
      refine V_iconst 105 (-1) rfl dX10_two_104 rfl ?_
      refine V_icmp_ne 139 108 rfl dX10_two_105 rfl (fun c105 => absurd c105 (by decide)) (fun c105 => ?_)
      refine V_bipush 110 (10) rfl dX10_two_108 rfl ?_
      refine V_iload 112 2 rfl dX10_two_110 rfl ?_
      refine V_imul 113 dX10_two_112 rfl ?_
      refine V_rw (show _ = (0 : Int32) from by decide) ?_
      refine V_iload 115 1 rfl dX10_two_113 rfl ?_
      refine V_iadd 116 dX10_two_115 rfl ?_
      refine V_rw (show _ = (0 : Int32) from by decide) ?_
      refine V_istore 118 [(5, .int 0), (4, .int 1), (9, .int 0), (8, .int 0), (7, .int 0), (6, .int 0), (0, rf G 0), (1, .int (nI v)), (2, .int y), (3, .int 2)] (by decide) rfl dX10_two_116 rfl ?_
      refine V_iload 120 3 rfl dX10_two_118 rfl ?_
      refine V_iload 122 2 rfl dX10_two_120 rfl ?_
      refine V_iload_n 123 7 rfl rfl dX10_two_122 rfl ?_
      refine V_iload_n 124 8 rfl rfl dX10_two_123 rfl ?_
      refine V_callS (K' := 0) (S' := 0) 127 4 [.int 0, .int 0, .int (nI v), .int y] mkX10_has lkX10_319 rfl (Nat.le_of_ble_eq_true rfl) (Nat.le_of_ble_eq_true rfl) (Nat.le_of_ble_eq_true rfl) (Nat.le_of_ble_eq_true rfl) rfl rfl dX10_two_124 rfl (c_X10_has_00 ?_)
      rw [show haF 0 0 (nI v) y = nI v from rfl]
      refine Kq_i (k' := 3) (sl' := 18) rfl rfl ?_
      refine V_iload 129 2 rfl dX10_two_127 rfl ?_
      refine V_iload 131 3 rfl dX10_two_129 rfl ?_
      refine V_iload_n 132 7 rfl rfl dX10_two_131 rfl ?_
      refine V_iload_n 133 8 rfl rfl dX10_two_132 rfl ?_
      refine V_callS (K' := 0) (S' := 0) 136 4 [.int 0, .int 0, .int (nI v), .int y] mkX10_has lkX10_319 rfl (Nat.le_of_ble_eq_true rfl) (Nat.le_of_ble_eq_true rfl) (Nat.le_of_ble_eq_true rfl) (Nat.le_of_ble_eq_true rfl) rfl rfl dX10_two_133 rfl (c_X10_has_00 ?_)
      rw [show haF 0 0 (nI v) y = nI v from rfl]
      refine Kq_i (k' := 3) (sl' := 18) rfl rfl ?_
      refine V_iadd 137 dX10_two_136 rfl ?_
      refine V_istore 139 [(6, .int ((nI v) + (nI v))), (5, .int 0), (4, .int 1), (9, .int 0), (8, .int 0), (7, .int 0), (0, rf G 0), (1, .int (nI v)), (2, .int y), (3, .int 2)] (by decide) rfl dX10_two_137 rfl ?_
      refine V_iinc 142 5 rfl 1 [(7, .int 1), (6, .int ((nI v) + (nI v))), (5, .int 0), (4, .int 1), (9, .int 0), (8, .int 0), (0, rf G 0), (1, .int (nI v)), (2, .int y), (3, .int 2)] (by decide) (by decide) rfl dX10_two_139 rfl ?_
      refine V_goto 35 rfl dX10_two_142 ?_
      refine V_iload 37 0 rfl dX10_two_35 rfl ?_
      refine V_iconst 38 (4) rfl dX10_two_37 rfl ?_
      refine V_icmp_ge 145 41 rfl dX10_two_38 rfl (fun c38 => absurd c38 (by decide)) (fun c38 => ?_)
      refine V_iload 43 0 rfl dX10_two_41 rfl ?_
      refine V_iconst 44 (2) rfl dX10_two_43 rfl ?_
      refine V_idiv 45 (by decide) dX10_two_44 rfl ?_
      refine V_rw (show _ = (0 : Int32) from by decide) ?_
      refine V_istore 47 [(8, .int 0), (7, .int 1), (6, .int ((nI v) + (nI v))), (5, .int 0), (4, .int 1), (9, .int 0), (0, rf G 0), (1, .int (nI v)), (2, .int y), (3, .int 2)] (by decide) rfl dX10_two_45 rfl ?_
      refine V_iload 49 1 rfl dX10_two_47 rfl ?_
      refine V_iconst 50 (2) rfl dX10_two_49 rfl ?_
      refine V_irem 51 (by decide) dX10_two_50 rfl ?_
      refine V_rw (show _ = (1 : Int32) from by decide) ?_
      refine V_istore 53 [(9, .int 1), (8, .int 0), (7, .int 1), (6, .int ((nI v) + (nI v))), (5, .int 0), (4, .int 1), (0, rf G 0), (1, .int (nI v)), (2, .int y), (3, .int 2)] (by decide) rfl dX10_two_51 rfl ?_
      refine V_iload 55 1 rfl dX10_two_53 rfl ?_
      refine V_iload 57 0 rfl dX10_two_55 rfl ?_
      refine V_iload_n 58 7 rfl rfl dX10_two_57 rfl ?_
      refine V_iload_n 59 8 rfl rfl dX10_two_58 rfl ?_
      refine V_callS (K' := 0) (S' := 0) 62 4 [.int 0, .int 1, .int (nI v), .int y] mkX10_has lkX10_319 rfl (Nat.le_of_ble_eq_true rfl) (Nat.le_of_ble_eq_true rfl) (Nat.le_of_ble_eq_true rfl) (Nat.le_of_ble_eq_true rfl) rfl rfl dX10_two_59 rfl (c_X10_has_01 ?_)
      rw [show haF 0 1 (nI v) y = y from rfl]
      refine Kq_i (k' := 3) (sl' := 18) rfl rfl ?_
      refine V_iconst 63 (1) rfl dX10_two_62 rfl ?_
      refine V_iload 65 1 rfl dX10_two_63 rfl ?_
      refine V_isub 66 dX10_two_65 rfl ?_
      refine V_rw (show _ = (1 : Int32) from by decide) ?_
      refine V_iload 68 0 rfl dX10_two_66 rfl ?_
      refine V_iload_n 69 7 rfl rfl dX10_two_68 rfl ?_
      refine V_iload_n 70 8 rfl rfl dX10_two_69 rfl ?_
      refine V_callS (K' := 0) (S' := 0) 73 4 [.int 1, .int 1, .int (nI v), .int y] mkX10_has lkX10_319 rfl (Nat.le_of_ble_eq_true rfl) (Nat.le_of_ble_eq_true rfl) (Nat.le_of_ble_eq_true rfl) (Nat.le_of_ble_eq_true rfl) rfl rfl dX10_two_70 rfl (c_X10_has_11 ?_)
      rw [show haF 1 1 (nI v) y = y from rfl]
      refine Kq_i (k' := 3) (sl' := 18) rfl rfl ?_
      refine V_icmp_lt 139 76 rfl dX10_two_73 rfl (fun c73 => absurd c73 (Int32.lt_irrefl)) (fun c73 => ?_)
      refine V_iload 78 0 rfl dX10_two_76 rfl ?_
      refine V_iload 80 1 rfl dX10_two_78 rfl ?_
      refine V_iload_n 81 7 rfl rfl dX10_two_80 rfl ?_
      refine V_iload_n 82 8 rfl rfl dX10_two_81 rfl ?_
      refine V_callS (K' := 0) (S' := 0) 85 4 [.int 1, .int 0, .int (nI v), .int y] mkX10_has lkX10_319 rfl (Nat.le_of_ble_eq_true rfl) (Nat.le_of_ble_eq_true rfl) (Nat.le_of_ble_eq_true rfl) (Nat.le_of_ble_eq_true rfl) rfl rfl dX10_two_82 rfl (c_X10_has_10 ?_)
      rw [show haF 1 0 (nI v) y = nI v / 2 from rfl]
      refine Kq_i (k' := 3) (sl' := 18) rfl rfl ?_
      refine V_iconst 86 (1) rfl dX10_two_85 rfl ?_
      refine V_iload 88 0 rfl dX10_two_86 rfl ?_
      refine V_isub 89 dX10_two_88 rfl ?_
      refine V_rw (show _ = (0 : Int32) from by decide) ?_
      refine V_iload 91 1 rfl dX10_two_89 rfl ?_
      refine V_iload_n 92 7 rfl rfl dX10_two_91 rfl ?_
      refine V_iload_n 93 8 rfl rfl dX10_two_92 rfl ?_
      refine V_callS (K' := 0) (S' := 0) 96 4 [.int 0, .int 0, .int (nI v), .int y] mkX10_has lkX10_319 rfl (Nat.le_of_ble_eq_true rfl) (Nat.le_of_ble_eq_true rfl) (Nat.le_of_ble_eq_true rfl) (Nat.le_of_ble_eq_true rfl) rfl rfl dX10_two_93 rfl (c_X10_has_00 ?_)
      rw [show haF 0 0 (nI v) y = nI v from rfl]
      refine Kq_i (k' := 3) (sl' := 18) rfl rfl ?_
      refine V_icmp_lt 139 99 rfl dX10_two_96 rfl (fun c96 => absurd c96 (by rw [v0]; decide)) (fun c96 => ?_)
      refine V_iinc 102 5 rfl 2 [(4, .int 2), (9, .int 1), (8, .int 0), (7, .int 1), (6, .int ((nI v) + (nI v))), (5, .int 0), (0, rf G 0), (1, .int (nI v)), (2, .int y), (3, .int 2)] (by decide) (by decide) rfl dX10_two_99 rfl ?_
      refine V_iload 104 5 rfl dX10_two_102 rfl ?_
      refine V_iconst 105 (-1) rfl dX10_two_104 rfl ?_
      refine V_icmp_ne 139 108 rfl dX10_two_105 rfl (fun c105 => ?_) (fun c105 => absurd c105 (by decide))
      refine V_iinc 142 3 rfl 2 [(7, .int 2), (4, .int 2), (9, .int 1), (8, .int 0), (6, .int ((nI v) + (nI v))), (5, .int 0), (0, rf G 0), (1, .int (nI v)), (2, .int y), (3, .int 2)] (by decide) (by decide) rfl dX10_two_139 rfl ?_
      refine V_goto 35 rfl dX10_two_142 ?_
      refine V_iload 37 0 rfl dX10_two_35 rfl ?_
      refine V_iconst 38 (4) rfl dX10_two_37 rfl ?_
      refine V_icmp_ge 145 41 rfl dX10_two_38 rfl (fun c38 => absurd c38 (by decide)) (fun c38 => ?_)
      refine V_iload 43 0 rfl dX10_two_41 rfl ?_
      refine V_iconst 44 (2) rfl dX10_two_43 rfl ?_
      refine V_idiv 45 (by decide) dX10_two_44 rfl ?_
      refine V_rw (show _ = (1 : Int32) from by decide) ?_
      refine V_istore 47 [(8, .int 1), (7, .int 2), (4, .int 2), (9, .int 1), (6, .int ((nI v) + (nI v))), (5, .int 0), (0, rf G 0), (1, .int (nI v)), (2, .int y), (3, .int 2)] (by decide) rfl dX10_two_45 rfl ?_
      refine V_iload 49 1 rfl dX10_two_47 rfl ?_
      refine V_iconst 50 (2) rfl dX10_two_49 rfl ?_
      refine V_irem 51 (by decide) dX10_two_50 rfl ?_
      refine V_rw (show _ = (0 : Int32) from by decide) ?_
      refine V_istore 53 [(9, .int 0), (8, .int 1), (7, .int 2), (4, .int 2), (6, .int ((nI v) + (nI v))), (5, .int 0), (0, rf G 0), (1, .int (nI v)), (2, .int y), (3, .int 2)] (by decide) rfl dX10_two_51 rfl ?_
      refine V_iload 55 1 rfl dX10_two_53 rfl ?_
      refine V_iload 57 0 rfl dX10_two_55 rfl ?_
      refine V_iload_n 58 7 rfl rfl dX10_two_57 rfl ?_
      refine V_iload_n 59 8 rfl rfl dX10_two_58 rfl ?_
      refine V_callS (K' := 0) (S' := 0) 62 4 [.int 1, .int 0, .int (nI v), .int y] mkX10_has lkX10_319 rfl (Nat.le_of_ble_eq_true rfl) (Nat.le_of_ble_eq_true rfl) (Nat.le_of_ble_eq_true rfl) (Nat.le_of_ble_eq_true rfl) rfl rfl dX10_two_59 rfl (c_X10_has_10 ?_)
      rw [show haF 1 0 (nI v) y = nI v / 2 from rfl]
      refine Kq_i (k' := 3) (sl' := 18) rfl rfl ?_
      refine V_iconst 63 (1) rfl dX10_two_62 rfl ?_
      refine V_iload 65 1 rfl dX10_two_63 rfl ?_
      refine V_isub 66 dX10_two_65 rfl ?_
      refine V_rw (show _ = (0 : Int32) from by decide) ?_
      refine V_iload 68 0 rfl dX10_two_66 rfl ?_
      refine V_iload_n 69 7 rfl rfl dX10_two_68 rfl ?_
      refine V_iload_n 70 8 rfl rfl dX10_two_69 rfl ?_
      refine V_callS (K' := 0) (S' := 0) 73 4 [.int 0, .int 0, .int (nI v), .int y] mkX10_has lkX10_319 rfl (Nat.le_of_ble_eq_true rfl) (Nat.le_of_ble_eq_true rfl) (Nat.le_of_ble_eq_true rfl) (Nat.le_of_ble_eq_true rfl) rfl rfl dX10_two_70 rfl (c_X10_has_00 ?_)
      rw [show haF 0 0 (nI v) y = nI v from rfl]
      refine Kq_i (k' := 3) (sl' := 18) rfl rfl ?_
      refine V_icmp_lt 139 76 rfl dX10_two_73 rfl (fun c73 => absurd c73 (by rw [v0]; decide)) (fun c73 => ?_)
      refine V_iload 78 0 rfl dX10_two_76 rfl ?_
      refine V_iload 80 1 rfl dX10_two_78 rfl ?_
      refine V_iload_n 81 7 rfl rfl dX10_two_80 rfl ?_
      refine V_iload_n 82 8 rfl rfl dX10_two_81 rfl ?_
      refine V_callS (K' := 0) (S' := 0) 85 4 [.int 0, .int 1, .int (nI v), .int y] mkX10_has lkX10_319 rfl (Nat.le_of_ble_eq_true rfl) (Nat.le_of_ble_eq_true rfl) (Nat.le_of_ble_eq_true rfl) (Nat.le_of_ble_eq_true rfl) rfl rfl dX10_two_82 rfl (c_X10_has_01 ?_)
      rw [show haF 0 1 (nI v) y = y from rfl]
      refine Kq_i (k' := 3) (sl' := 18) rfl rfl ?_
      refine V_iconst 86 (1) rfl dX10_two_85 rfl ?_
      refine V_iload 88 0 rfl dX10_two_86 rfl ?_
      refine V_isub 89 dX10_two_88 rfl ?_
      refine V_rw (show _ = (1 : Int32) from by decide) ?_
      refine V_iload 91 1 rfl dX10_two_89 rfl ?_
      refine V_iload_n 92 7 rfl rfl dX10_two_91 rfl ?_
      refine V_iload_n 93 8 rfl rfl dX10_two_92 rfl ?_
      refine V_callS (K' := 0) (S' := 0) 96 4 [.int 1, .int 1, .int (nI v), .int y] mkX10_has lkX10_319 rfl (Nat.le_of_ble_eq_true rfl) (Nat.le_of_ble_eq_true rfl) (Nat.le_of_ble_eq_true rfl) (Nat.le_of_ble_eq_true rfl) rfl rfl dX10_two_93 rfl (c_X10_has_11 ?_)
      rw [show haF 1 1 (nI v) y = y from rfl]
      refine Kq_i (k' := 3) (sl' := 18) rfl rfl ?_
      refine V_icmp_lt 139 99 rfl dX10_two_96 rfl (fun c96 => absurd c96 (Int32.lt_irrefl)) (fun c96 => ?_)
      refine V_iinc 102 3 rfl 3 [(4, .int 3), (9, .int 0), (8, .int 1), (7, .int 2), (6, .int ((nI v) + (nI v))), (5, .int 0), (0, rf G 0), (1, .int (nI v)), (2, .int y), (3, .int 2)] (by decide) (by decide) rfl dX10_two_99 rfl ?_
      refine V_iload 104 5 rfl dX10_two_102 rfl ?_
      refine V_iconst 105 (-1) rfl dX10_two_104 rfl ?_
      refine V_icmp_ne 139 108 rfl dX10_two_105 rfl (fun c105 => ?_) (fun c105 => absurd c105 (by decide))
      refine V_iinc 142 3 rfl 3 [(7, .int 3), (4, .int 3), (9, .int 0), (8, .int 1), (6, .int ((nI v) + (nI v))), (5, .int 0), (0, rf G 0), (1, .int (nI v)), (2, .int y), (3, .int 2)] (by decide) (by decide) rfl dX10_two_139 rfl ?_
      refine V_goto 35 rfl dX10_two_142 ?_
      refine V_iload 37 0 rfl dX10_two_35 rfl ?_
      refine V_iconst 38 (4) rfl dX10_two_37 rfl ?_
      refine V_icmp_ge 145 41 rfl dX10_two_38 rfl (fun c38 => absurd c38 (by decide)) (fun c38 => ?_)
      refine V_iload 43 0 rfl dX10_two_41 rfl ?_
      refine V_iconst 44 (2) rfl dX10_two_43 rfl ?_
      refine V_idiv 45 (by decide) dX10_two_44 rfl ?_
      refine V_rw (show _ = (1 : Int32) from by decide) ?_
      refine V_istore 47 [(8, .int 1), (7, .int 3), (4, .int 3), (9, .int 0), (6, .int ((nI v) + (nI v))), (5, .int 0), (0, rf G 0), (1, .int (nI v)), (2, .int y), (3, .int 2)] (by decide) rfl dX10_two_45 rfl ?_
      refine V_iload 49 1 rfl dX10_two_47 rfl ?_
      refine V_iconst 50 (2) rfl dX10_two_49 rfl ?_
      refine V_irem 51 (by decide) dX10_two_50 rfl ?_
      refine V_rw (show _ = (1 : Int32) from by decide) ?_
      refine V_istore 53 [(9, .int 1), (8, .int 1), (7, .int 3), (4, .int 3), (6, .int ((nI v) + (nI v))), (5, .int 0), (0, rf G 0), (1, .int (nI v)), (2, .int y), (3, .int 2)] (by decide) rfl dX10_two_51 rfl ?_
      refine V_iload 55 1 rfl dX10_two_53 rfl ?_
      refine V_iload 57 0 rfl dX10_two_55 rfl ?_
      refine V_iload_n 58 7 rfl rfl dX10_two_57 rfl ?_
      refine V_iload_n 59 8 rfl rfl dX10_two_58 rfl ?_
      refine V_callS (K' := 0) (S' := 0) 62 4 [.int 1, .int 1, .int (nI v), .int y] mkX10_has lkX10_319 rfl (Nat.le_of_ble_eq_true rfl) (Nat.le_of_ble_eq_true rfl) (Nat.le_of_ble_eq_true rfl) (Nat.le_of_ble_eq_true rfl) rfl rfl dX10_two_59 rfl (c_X10_has_11 ?_)
      rw [show haF 1 1 (nI v) y = y from rfl]
      refine Kq_i (k' := 3) (sl' := 18) rfl rfl ?_
      refine V_iconst 63 (1) rfl dX10_two_62 rfl ?_
      refine V_iload 65 1 rfl dX10_two_63 rfl ?_
      refine V_isub 66 dX10_two_65 rfl ?_
      refine V_rw (show _ = (0 : Int32) from by decide) ?_
      refine V_iload 68 0 rfl dX10_two_66 rfl ?_
      refine V_iload_n 69 7 rfl rfl dX10_two_68 rfl ?_
      refine V_iload_n 70 8 rfl rfl dX10_two_69 rfl ?_
      refine V_callS (K' := 0) (S' := 0) 73 4 [.int 0, .int 1, .int (nI v), .int y] mkX10_has lkX10_319 rfl (Nat.le_of_ble_eq_true rfl) (Nat.le_of_ble_eq_true rfl) (Nat.le_of_ble_eq_true rfl) (Nat.le_of_ble_eq_true rfl) rfl rfl dX10_two_70 rfl (c_X10_has_01 ?_)
      rw [show haF 0 1 (nI v) y = y from rfl]
      refine Kq_i (k' := 3) (sl' := 18) rfl rfl ?_
      refine V_icmp_lt 139 76 rfl dX10_two_73 rfl (fun c73 => absurd c73 (Int32.lt_irrefl)) (fun c73 => ?_)
      refine V_iload 78 0 rfl dX10_two_76 rfl ?_
      refine V_iload 80 1 rfl dX10_two_78 rfl ?_
      refine V_iload_n 81 7 rfl rfl dX10_two_80 rfl ?_
      refine V_iload_n 82 8 rfl rfl dX10_two_81 rfl ?_
      refine V_callS (K' := 0) (S' := 0) 85 4 [.int 1, .int 1, .int (nI v), .int y] mkX10_has lkX10_319 rfl (Nat.le_of_ble_eq_true rfl) (Nat.le_of_ble_eq_true rfl) (Nat.le_of_ble_eq_true rfl) (Nat.le_of_ble_eq_true rfl) rfl rfl dX10_two_82 rfl (c_X10_has_11 ?_)
      rw [show haF 1 1 (nI v) y = y from rfl]
      refine Kq_i (k' := 3) (sl' := 18) rfl rfl ?_
      refine V_iconst 86 (1) rfl dX10_two_85 rfl ?_
      refine V_iload 88 0 rfl dX10_two_86 rfl ?_
      refine V_isub 89 dX10_two_88 rfl ?_
      refine V_rw (show _ = (0 : Int32) from by decide) ?_
      refine V_iload 91 1 rfl dX10_two_89 rfl ?_
      refine V_iload_n 92 7 rfl rfl dX10_two_91 rfl ?_
      refine V_iload_n 93 8 rfl rfl dX10_two_92 rfl ?_
      refine V_callS (K' := 0) (S' := 0) 96 4 [.int 0, .int 1, .int (nI v), .int y] mkX10_has lkX10_319 rfl (Nat.le_of_ble_eq_true rfl) (Nat.le_of_ble_eq_true rfl) (Nat.le_of_ble_eq_true rfl) (Nat.le_of_ble_eq_true rfl) rfl rfl dX10_two_93 rfl (c_X10_has_01 ?_)
      rw [show haF 0 1 (nI v) y = y from rfl]
      refine Kq_i (k' := 3) (sl' := 18) rfl rfl ?_
      refine V_icmp_lt 139 99 rfl dX10_two_96 rfl (fun c96 => absurd c96 (Int32.lt_irrefl)) (fun c96 => ?_)
      refine V_iinc 102 3 rfl 4 [(4, .int 4), (9, .int 1), (8, .int 1), (7, .int 3), (6, .int ((nI v) + (nI v))), (5, .int 0), (0, rf G 0), (1, .int (nI v)), (2, .int y), (3, .int 2)] (by decide) (by decide) rfl dX10_two_99 rfl ?_
      refine V_iload 104 5 rfl dX10_two_102 rfl ?_
      refine V_iconst 105 (-1) rfl dX10_two_104 rfl ?_
      refine V_icmp_ne 139 108 rfl dX10_two_105 rfl (fun c105 => ?_) (fun c105 => absurd c105 (by decide))
      refine V_iinc 142 3 rfl 4 [(7, .int 4), (4, .int 4), (9, .int 1), (8, .int 1), (6, .int ((nI v) + (nI v))), (5, .int 0), (0, rf G 0), (1, .int (nI v)), (2, .int y), (3, .int 2)] (by decide) (by decide) rfl dX10_two_139 rfl ?_
      refine V_goto 35 rfl dX10_two_142 ?_
      refine V_iload 37 0 rfl dX10_two_35 rfl ?_
      refine V_iconst 38 (4) rfl dX10_two_37 rfl ?_
      refine V_icmp_ge 145 41 rfl dX10_two_38 rfl (fun c38 => ?_) (fun c38 => absurd c38 (by decide))
      refine V_iload_n 146 9 rfl rfl dX10_two_145 rfl ?_
      refine V_if_ne 154 149 rfl dX10_two_146 rfl (fun c146 => ?_) (fun c146 => absurd c146 (by decide))
      refine V_iload_n 155 9 rfl rfl dX10_two_154 rfl ?_
      refine V_iconst 156 (1) rfl dX10_two_155 rfl ?_
      refine V_icmp_ne 164 159 rfl dX10_two_156 rfl (fun c156 => ?_) (fun c156 => absurd c156 (by decide))
      refine V_iload 166 4 rfl dX10_two_164 rfl ?_
      refine V_ret_i rfl rfl (Nat.le_of_ble_eq_true rfl) (fun h => absurd h (by decide)) (Nat.le_of_ble_eq_true rfl) (hq I FrQ.rf) dX10_two_166
    · rw [show twF (nI v) 2 = nI v + nI v from rfl] at hq
      show V _ _ _ _ _ _ _ _ [(0, rf G 0), (1, .int (nI v)), (2, .int y), (3, .int 2)] [] _ _ _ _ _
      refine V_iconst 24 (0) rfl dX10_two_23 rfl ?_
      refine V_istore 26 [(4, .int 0), (0, rf G 0), (1, .int (nI v)), (2, .int y), (3, .int 2)] (by decide) rfl dX10_two_24 rfl ?_
      refine V_iconst 27 (-1) rfl dX10_two_26 rfl ?_
      refine V_istore 29 [(5, .int (-1)), (4, .int 0), (0, rf G 0), (1, .int (nI v)), (2, .int y), (3, .int 2)] (by decide) rfl dX10_two_27 rfl ?_
      refine V_iconst 30 (0) rfl dX10_two_29 rfl ?_
      refine V_istore 32 [(6, .int 0), (5, .int (-1)), (4, .int 0), (0, rf G 0), (1, .int (nI v)), (2, .int y), (3, .int 2)] (by decide) rfl dX10_two_30 rfl ?_
      refine V_iconst 33 (0) rfl dX10_two_32 rfl ?_
      refine V_istore 35 [(7, .int 0), (6, .int 0), (5, .int (-1)), (4, .int 0), (0, rf G 0), (1, .int (nI v)), (2, .int y), (3, .int 2)] (by decide) rfl dX10_two_33 rfl ?_
      refine V_iload 37 0 rfl dX10_two_35 rfl ?_
      refine V_iconst 38 (4) rfl dX10_two_37 rfl ?_
      refine V_icmp_ge 145 41 rfl dX10_two_38 rfl (fun c38 => absurd c38 (by decide)) (fun c38 => ?_)
      refine V_iload 43 0 rfl dX10_two_41 rfl ?_
      refine V_iconst 44 (2) rfl dX10_two_43 rfl ?_
      refine V_idiv 45 (by decide) dX10_two_44 rfl ?_
      refine V_rw (show _ = (0 : Int32) from by decide) ?_
      refine V_istore 47 [(8, .int 0), (7, .int 0), (6, .int 0), (5, .int (-1)), (4, .int 0), (0, rf G 0), (1, .int (nI v)), (2, .int y), (3, .int 2)] (by decide) rfl dX10_two_45 rfl ?_
      refine V_iload 49 1 rfl dX10_two_47 rfl ?_
      refine V_iconst 50 (2) rfl dX10_two_49 rfl ?_
      refine V_irem 51 (by decide) dX10_two_50 rfl ?_
      refine V_rw (show _ = (0 : Int32) from by decide) ?_
      refine V_istore 53 [(9, .int 0), (8, .int 0), (7, .int 0), (6, .int 0), (5, .int (-1)), (4, .int 0), (0, rf G 0), (1, .int (nI v)), (2, .int y), (3, .int 2)] (by decide) rfl dX10_two_51 rfl ?_
      refine V_iload 55 1 rfl dX10_two_53 rfl ?_
      refine V_iload 57 0 rfl dX10_two_55 rfl ?_
      refine V_iload_n 58 7 rfl rfl dX10_two_57 rfl ?_
      refine V_iload_n 59 8 rfl rfl dX10_two_58 rfl ?_
      refine V_callS (K' := 0) (S' := 0) 62 4 [.int 0, .int 0, .int (nI v), .int y] mkX10_has lkX10_319 rfl (Nat.le_of_ble_eq_true rfl) (Nat.le_of_ble_eq_true rfl) (Nat.le_of_ble_eq_true rfl) (Nat.le_of_ble_eq_true rfl) rfl rfl dX10_two_59 rfl (c_X10_has_00 ?_)
      rw [show haF 0 0 (nI v) y = nI v from rfl]
      refine Kq_i (k' := 3) (sl' := 18) rfl rfl ?_
      refine V_iconst 63 (1) rfl dX10_two_62 rfl ?_
      refine V_iload 65 1 rfl dX10_two_63 rfl ?_
      refine V_isub 66 dX10_two_65 rfl ?_
      refine V_rw (show _ = (1 : Int32) from by decide) ?_
      refine V_iload 68 0 rfl dX10_two_66 rfl ?_
      refine V_iload_n 69 7 rfl rfl dX10_two_68 rfl ?_
      refine V_iload_n 70 8 rfl rfl dX10_two_69 rfl ?_
      refine V_callS (K' := 0) (S' := 0) 73 4 [.int 1, .int 0, .int (nI v), .int y] mkX10_has lkX10_319 rfl (Nat.le_of_ble_eq_true rfl) (Nat.le_of_ble_eq_true rfl) (Nat.le_of_ble_eq_true rfl) (Nat.le_of_ble_eq_true rfl) rfl rfl dX10_two_70 rfl (c_X10_has_10 ?_)
      rw [show haF 1 0 (nI v) y = nI v / 2 from rfl]
      refine Kq_i (k' := 3) (sl' := 18) rfl rfl ?_
      refine V_icmp_lt 139 76 rfl dX10_two_73 rfl (fun c73 => absurd c73 (half_le v hv)) (fun c73 => ?_)
      refine V_iload 78 0 rfl dX10_two_76 rfl ?_
      refine V_iload 80 1 rfl dX10_two_78 rfl ?_
      refine V_iload_n 81 7 rfl rfl dX10_two_80 rfl ?_
      refine V_iload_n 82 8 rfl rfl dX10_two_81 rfl ?_
      refine V_callS (K' := 0) (S' := 0) 85 4 [.int 0, .int 0, .int (nI v), .int y] mkX10_has lkX10_319 rfl (Nat.le_of_ble_eq_true rfl) (Nat.le_of_ble_eq_true rfl) (Nat.le_of_ble_eq_true rfl) (Nat.le_of_ble_eq_true rfl) rfl rfl dX10_two_82 rfl (c_X10_has_00 ?_)
      rw [show haF 0 0 (nI v) y = nI v from rfl]
      refine Kq_i (k' := 3) (sl' := 18) rfl rfl ?_
      refine V_iconst 86 (1) rfl dX10_two_85 rfl ?_
      refine V_iload 88 0 rfl dX10_two_86 rfl ?_
      refine V_isub 89 dX10_two_88 rfl ?_
      refine V_rw (show _ = (1 : Int32) from by decide) ?_
      refine V_iload 91 1 rfl dX10_two_89 rfl ?_
      refine V_iload_n 92 7 rfl rfl dX10_two_91 rfl ?_
      refine V_iload_n 93 8 rfl rfl dX10_two_92 rfl ?_
      refine V_callS (K' := 0) (S' := 0) 96 4 [.int 1, .int 0, .int (nI v), .int y] mkX10_has lkX10_319 rfl (Nat.le_of_ble_eq_true rfl) (Nat.le_of_ble_eq_true rfl) (Nat.le_of_ble_eq_true rfl) (Nat.le_of_ble_eq_true rfl) rfl rfl dX10_two_93 rfl (c_X10_has_10 ?_)
      rw [show haF 1 0 (nI v) y = nI v / 2 from rfl]
      refine Kq_i (k' := 3) (sl' := 18) rfl rfl ?_
      refine V_icmp_lt 139 99 rfl dX10_two_96 rfl (fun c96 => absurd c96 (half_le v hv)) (fun c96 => ?_)
      refine V_iinc 102 5 rfl 1 [(4, .int 1), (9, .int 0), (8, .int 0), (7, .int 0), (6, .int 0), (5, .int (-1)), (0, rf G 0), (1, .int (nI v)), (2, .int y), (3, .int 2)] (by decide) (by decide) rfl dX10_two_99 rfl ?_
      refine V_iload 104 5 rfl dX10_two_102 rfl ?_
      refine V_iconst 105 (-1) rfl dX10_two_104 rfl ?_
      refine V_icmp_ne 139 108 rfl dX10_two_105 rfl (fun c105 => absurd c105 (by decide)) (fun c105 => ?_)
      refine V_bipush 110 (10) rfl dX10_two_108 rfl ?_
      refine V_iload 112 2 rfl dX10_two_110 rfl ?_
      refine V_imul 113 dX10_two_112 rfl ?_
      refine V_rw (show _ = (0 : Int32) from by decide) ?_
      refine V_iload 115 1 rfl dX10_two_113 rfl ?_
      refine V_iadd 116 dX10_two_115 rfl ?_
      refine V_rw (show _ = (0 : Int32) from by decide) ?_
      refine V_istore 118 [(5, .int 0), (4, .int 1), (9, .int 0), (8, .int 0), (7, .int 0), (6, .int 0), (0, rf G 0), (1, .int (nI v)), (2, .int y), (3, .int 2)] (by decide) rfl dX10_two_116 rfl ?_
      refine V_iload 120 3 rfl dX10_two_118 rfl ?_
      refine V_iload 122 2 rfl dX10_two_120 rfl ?_
      refine V_iload_n 123 7 rfl rfl dX10_two_122 rfl ?_
      refine V_iload_n 124 8 rfl rfl dX10_two_123 rfl ?_
      refine V_callS (K' := 0) (S' := 0) 127 4 [.int 0, .int 0, .int (nI v), .int y] mkX10_has lkX10_319 rfl (Nat.le_of_ble_eq_true rfl) (Nat.le_of_ble_eq_true rfl) (Nat.le_of_ble_eq_true rfl) (Nat.le_of_ble_eq_true rfl) rfl rfl dX10_two_124 rfl (c_X10_has_00 ?_)
      rw [show haF 0 0 (nI v) y = nI v from rfl]
      refine Kq_i (k' := 3) (sl' := 18) rfl rfl ?_
      refine V_iload 129 2 rfl dX10_two_127 rfl ?_
      refine V_iload 131 3 rfl dX10_two_129 rfl ?_
      refine V_iload_n 132 7 rfl rfl dX10_two_131 rfl ?_
      refine V_iload_n 133 8 rfl rfl dX10_two_132 rfl ?_
      refine V_callS (K' := 0) (S' := 0) 136 4 [.int 0, .int 0, .int (nI v), .int y] mkX10_has lkX10_319 rfl (Nat.le_of_ble_eq_true rfl) (Nat.le_of_ble_eq_true rfl) (Nat.le_of_ble_eq_true rfl) (Nat.le_of_ble_eq_true rfl) rfl rfl dX10_two_133 rfl (c_X10_has_00 ?_)
      rw [show haF 0 0 (nI v) y = nI v from rfl]
      refine Kq_i (k' := 3) (sl' := 18) rfl rfl ?_
      refine V_iadd 137 dX10_two_136 rfl ?_
      refine V_istore 139 [(6, .int ((nI v) + (nI v))), (5, .int 0), (4, .int 1), (9, .int 0), (8, .int 0), (7, .int 0), (0, rf G 0), (1, .int (nI v)), (2, .int y), (3, .int 2)] (by decide) rfl dX10_two_137 rfl ?_
      refine V_iinc 142 5 rfl 1 [(7, .int 1), (6, .int ((nI v) + (nI v))), (5, .int 0), (4, .int 1), (9, .int 0), (8, .int 0), (0, rf G 0), (1, .int (nI v)), (2, .int y), (3, .int 2)] (by decide) (by decide) rfl dX10_two_139 rfl ?_
      refine V_goto 35 rfl dX10_two_142 ?_
      refine V_iload 37 0 rfl dX10_two_35 rfl ?_
      refine V_iconst 38 (4) rfl dX10_two_37 rfl ?_
      refine V_icmp_ge 145 41 rfl dX10_two_38 rfl (fun c38 => absurd c38 (by decide)) (fun c38 => ?_)
      refine V_iload 43 0 rfl dX10_two_41 rfl ?_
      refine V_iconst 44 (2) rfl dX10_two_43 rfl ?_
      refine V_idiv 45 (by decide) dX10_two_44 rfl ?_
      refine V_rw (show _ = (0 : Int32) from by decide) ?_
      refine V_istore 47 [(8, .int 0), (7, .int 1), (6, .int ((nI v) + (nI v))), (5, .int 0), (4, .int 1), (9, .int 0), (0, rf G 0), (1, .int (nI v)), (2, .int y), (3, .int 2)] (by decide) rfl dX10_two_45 rfl ?_
      refine V_iload 49 1 rfl dX10_two_47 rfl ?_
      refine V_iconst 50 (2) rfl dX10_two_49 rfl ?_
      refine V_irem 51 (by decide) dX10_two_50 rfl ?_
      refine V_rw (show _ = (1 : Int32) from by decide) ?_
      refine V_istore 53 [(9, .int 1), (8, .int 0), (7, .int 1), (6, .int ((nI v) + (nI v))), (5, .int 0), (4, .int 1), (0, rf G 0), (1, .int (nI v)), (2, .int y), (3, .int 2)] (by decide) rfl dX10_two_51 rfl ?_
      refine V_iload 55 1 rfl dX10_two_53 rfl ?_
      refine V_iload 57 0 rfl dX10_two_55 rfl ?_
      refine V_iload_n 58 7 rfl rfl dX10_two_57 rfl ?_
      refine V_iload_n 59 8 rfl rfl dX10_two_58 rfl ?_
      refine V_callS (K' := 0) (S' := 0) 62 4 [.int 0, .int 1, .int (nI v), .int y] mkX10_has lkX10_319 rfl (Nat.le_of_ble_eq_true rfl) (Nat.le_of_ble_eq_true rfl) (Nat.le_of_ble_eq_true rfl) (Nat.le_of_ble_eq_true rfl) rfl rfl dX10_two_59 rfl (c_X10_has_01 ?_)
      rw [show haF 0 1 (nI v) y = y from rfl]
      refine Kq_i (k' := 3) (sl' := 18) rfl rfl ?_
      refine V_iconst 63 (1) rfl dX10_two_62 rfl ?_
      refine V_iload 65 1 rfl dX10_two_63 rfl ?_
      refine V_isub 66 dX10_two_65 rfl ?_
      refine V_rw (show _ = (1 : Int32) from by decide) ?_
      refine V_iload 68 0 rfl dX10_two_66 rfl ?_
      refine V_iload_n 69 7 rfl rfl dX10_two_68 rfl ?_
      refine V_iload_n 70 8 rfl rfl dX10_two_69 rfl ?_
      refine V_callS (K' := 0) (S' := 0) 73 4 [.int 1, .int 1, .int (nI v), .int y] mkX10_has lkX10_319 rfl (Nat.le_of_ble_eq_true rfl) (Nat.le_of_ble_eq_true rfl) (Nat.le_of_ble_eq_true rfl) (Nat.le_of_ble_eq_true rfl) rfl rfl dX10_two_70 rfl (c_X10_has_11 ?_)
      rw [show haF 1 1 (nI v) y = y from rfl]
      refine Kq_i (k' := 3) (sl' := 18) rfl rfl ?_
      refine V_icmp_lt 139 76 rfl dX10_two_73 rfl (fun c73 => absurd c73 (Int32.lt_irrefl)) (fun c73 => ?_)
      refine V_iload 78 0 rfl dX10_two_76 rfl ?_
      refine V_iload 80 1 rfl dX10_two_78 rfl ?_
      refine V_iload_n 81 7 rfl rfl dX10_two_80 rfl ?_
      refine V_iload_n 82 8 rfl rfl dX10_two_81 rfl ?_
      refine V_callS (K' := 0) (S' := 0) 85 4 [.int 1, .int 0, .int (nI v), .int y] mkX10_has lkX10_319 rfl (Nat.le_of_ble_eq_true rfl) (Nat.le_of_ble_eq_true rfl) (Nat.le_of_ble_eq_true rfl) (Nat.le_of_ble_eq_true rfl) rfl rfl dX10_two_82 rfl (c_X10_has_10 ?_)
      rw [show haF 1 0 (nI v) y = nI v / 2 from rfl]
      refine Kq_i (k' := 3) (sl' := 18) rfl rfl ?_
      refine V_iconst 86 (1) rfl dX10_two_85 rfl ?_
      refine V_iload 88 0 rfl dX10_two_86 rfl ?_
      refine V_isub 89 dX10_two_88 rfl ?_
      refine V_rw (show _ = (0 : Int32) from by decide) ?_
      refine V_iload 91 1 rfl dX10_two_89 rfl ?_
      refine V_iload_n 92 7 rfl rfl dX10_two_91 rfl ?_
      refine V_iload_n 93 8 rfl rfl dX10_two_92 rfl ?_
      refine V_callS (K' := 0) (S' := 0) 96 4 [.int 0, .int 0, .int (nI v), .int y] mkX10_has lkX10_319 rfl (Nat.le_of_ble_eq_true rfl) (Nat.le_of_ble_eq_true rfl) (Nat.le_of_ble_eq_true rfl) (Nat.le_of_ble_eq_true rfl) rfl rfl dX10_two_93 rfl (c_X10_has_00 ?_)
      rw [show haF 0 0 (nI v) y = nI v from rfl]
      refine Kq_i (k' := 3) (sl' := 18) rfl rfl ?_
      refine V_icmp_lt 139 99 rfl dX10_two_96 rfl (fun c96 => ?_) (fun c96 => absurd (half_lt v hv v0) c96)
      refine V_iinc 142 2 rfl 2 [(7, .int 2), (9, .int 1), (8, .int 0), (6, .int ((nI v) + (nI v))), (5, .int 0), (4, .int 1), (0, rf G 0), (1, .int (nI v)), (2, .int y), (3, .int 2)] (by decide) (by decide) rfl dX10_two_139 rfl ?_
      refine V_goto 35 rfl dX10_two_142 ?_
      refine V_iload 37 0 rfl dX10_two_35 rfl ?_
      refine V_iconst 38 (4) rfl dX10_two_37 rfl ?_
      refine V_icmp_ge 145 41 rfl dX10_two_38 rfl (fun c38 => absurd c38 (by decide)) (fun c38 => ?_)
      refine V_iload 43 0 rfl dX10_two_41 rfl ?_
      refine V_iconst 44 (2) rfl dX10_two_43 rfl ?_
      refine V_idiv 45 (by decide) dX10_two_44 rfl ?_
      refine V_rw (show _ = (1 : Int32) from by decide) ?_
      refine V_istore 47 [(8, .int 1), (7, .int 2), (9, .int 1), (6, .int ((nI v) + (nI v))), (5, .int 0), (4, .int 1), (0, rf G 0), (1, .int (nI v)), (2, .int y), (3, .int 2)] (by decide) rfl dX10_two_45 rfl ?_
      refine V_iload 49 1 rfl dX10_two_47 rfl ?_
      refine V_iconst 50 (2) rfl dX10_two_49 rfl ?_
      refine V_irem 51 (by decide) dX10_two_50 rfl ?_
      refine V_rw (show _ = (0 : Int32) from by decide) ?_
      refine V_istore 53 [(9, .int 0), (8, .int 1), (7, .int 2), (6, .int ((nI v) + (nI v))), (5, .int 0), (4, .int 1), (0, rf G 0), (1, .int (nI v)), (2, .int y), (3, .int 2)] (by decide) rfl dX10_two_51 rfl ?_
      refine V_iload 55 1 rfl dX10_two_53 rfl ?_
      refine V_iload 57 0 rfl dX10_two_55 rfl ?_
      refine V_iload_n 58 7 rfl rfl dX10_two_57 rfl ?_
      refine V_iload_n 59 8 rfl rfl dX10_two_58 rfl ?_
      refine V_callS (K' := 0) (S' := 0) 62 4 [.int 1, .int 0, .int (nI v), .int y] mkX10_has lkX10_319 rfl (Nat.le_of_ble_eq_true rfl) (Nat.le_of_ble_eq_true rfl) (Nat.le_of_ble_eq_true rfl) (Nat.le_of_ble_eq_true rfl) rfl rfl dX10_two_59 rfl (c_X10_has_10 ?_)
      rw [show haF 1 0 (nI v) y = nI v / 2 from rfl]
      refine Kq_i (k' := 3) (sl' := 18) rfl rfl ?_
      refine V_iconst 63 (1) rfl dX10_two_62 rfl ?_
      refine V_iload 65 1 rfl dX10_two_63 rfl ?_
      refine V_isub 66 dX10_two_65 rfl ?_
      refine V_rw (show _ = (0 : Int32) from by decide) ?_
      refine V_iload 68 0 rfl dX10_two_66 rfl ?_
      refine V_iload_n 69 7 rfl rfl dX10_two_68 rfl ?_
      refine V_iload_n 70 8 rfl rfl dX10_two_69 rfl ?_
      refine V_callS (K' := 0) (S' := 0) 73 4 [.int 0, .int 0, .int (nI v), .int y] mkX10_has lkX10_319 rfl (Nat.le_of_ble_eq_true rfl) (Nat.le_of_ble_eq_true rfl) (Nat.le_of_ble_eq_true rfl) (Nat.le_of_ble_eq_true rfl) rfl rfl dX10_two_70 rfl (c_X10_has_00 ?_)
      rw [show haF 0 0 (nI v) y = nI v from rfl]
      refine Kq_i (k' := 3) (sl' := 18) rfl rfl ?_
      refine V_icmp_lt 139 76 rfl dX10_two_73 rfl (fun c73 => ?_) (fun c73 => absurd (half_lt v hv v0) c73)
      refine V_iinc 142 2 rfl 3 [(7, .int 3), (9, .int 0), (8, .int 1), (6, .int ((nI v) + (nI v))), (5, .int 0), (4, .int 1), (0, rf G 0), (1, .int (nI v)), (2, .int y), (3, .int 2)] (by decide) (by decide) rfl dX10_two_139 rfl ?_
      refine V_goto 35 rfl dX10_two_142 ?_
      refine V_iload 37 0 rfl dX10_two_35 rfl ?_
      refine V_iconst 38 (4) rfl dX10_two_37 rfl ?_
      refine V_icmp_ge 145 41 rfl dX10_two_38 rfl (fun c38 => absurd c38 (by decide)) (fun c38 => ?_)
      refine V_iload 43 0 rfl dX10_two_41 rfl ?_
      refine V_iconst 44 (2) rfl dX10_two_43 rfl ?_
      refine V_idiv 45 (by decide) dX10_two_44 rfl ?_
      refine V_rw (show _ = (1 : Int32) from by decide) ?_
      refine V_istore 47 [(8, .int 1), (7, .int 3), (9, .int 0), (6, .int ((nI v) + (nI v))), (5, .int 0), (4, .int 1), (0, rf G 0), (1, .int (nI v)), (2, .int y), (3, .int 2)] (by decide) rfl dX10_two_45 rfl ?_
      refine V_iload 49 1 rfl dX10_two_47 rfl ?_
      refine V_iconst 50 (2) rfl dX10_two_49 rfl ?_
      refine V_irem 51 (by decide) dX10_two_50 rfl ?_
      refine V_rw (show _ = (1 : Int32) from by decide) ?_
      refine V_istore 53 [(9, .int 1), (8, .int 1), (7, .int 3), (6, .int ((nI v) + (nI v))), (5, .int 0), (4, .int 1), (0, rf G 0), (1, .int (nI v)), (2, .int y), (3, .int 2)] (by decide) rfl dX10_two_51 rfl ?_
      refine V_iload 55 1 rfl dX10_two_53 rfl ?_
      refine V_iload 57 0 rfl dX10_two_55 rfl ?_
      refine V_iload_n 58 7 rfl rfl dX10_two_57 rfl ?_
      refine V_iload_n 59 8 rfl rfl dX10_two_58 rfl ?_
      refine V_callS (K' := 0) (S' := 0) 62 4 [.int 1, .int 1, .int (nI v), .int y] mkX10_has lkX10_319 rfl (Nat.le_of_ble_eq_true rfl) (Nat.le_of_ble_eq_true rfl) (Nat.le_of_ble_eq_true rfl) (Nat.le_of_ble_eq_true rfl) rfl rfl dX10_two_59 rfl (c_X10_has_11 ?_)
      rw [show haF 1 1 (nI v) y = y from rfl]
      refine Kq_i (k' := 3) (sl' := 18) rfl rfl ?_
      refine V_iconst 63 (1) rfl dX10_two_62 rfl ?_
      refine V_iload 65 1 rfl dX10_two_63 rfl ?_
      refine V_isub 66 dX10_two_65 rfl ?_
      refine V_rw (show _ = (0 : Int32) from by decide) ?_
      refine V_iload 68 0 rfl dX10_two_66 rfl ?_
      refine V_iload_n 69 7 rfl rfl dX10_two_68 rfl ?_
      refine V_iload_n 70 8 rfl rfl dX10_two_69 rfl ?_
      refine V_callS (K' := 0) (S' := 0) 73 4 [.int 0, .int 1, .int (nI v), .int y] mkX10_has lkX10_319 rfl (Nat.le_of_ble_eq_true rfl) (Nat.le_of_ble_eq_true rfl) (Nat.le_of_ble_eq_true rfl) (Nat.le_of_ble_eq_true rfl) rfl rfl dX10_two_70 rfl (c_X10_has_01 ?_)
      rw [show haF 0 1 (nI v) y = y from rfl]
      refine Kq_i (k' := 3) (sl' := 18) rfl rfl ?_
      refine V_icmp_lt 139 76 rfl dX10_two_73 rfl (fun c73 => absurd c73 (Int32.lt_irrefl)) (fun c73 => ?_)
      refine V_iload 78 0 rfl dX10_two_76 rfl ?_
      refine V_iload 80 1 rfl dX10_two_78 rfl ?_
      refine V_iload_n 81 7 rfl rfl dX10_two_80 rfl ?_
      refine V_iload_n 82 8 rfl rfl dX10_two_81 rfl ?_
      refine V_callS (K' := 0) (S' := 0) 85 4 [.int 1, .int 1, .int (nI v), .int y] mkX10_has lkX10_319 rfl (Nat.le_of_ble_eq_true rfl) (Nat.le_of_ble_eq_true rfl) (Nat.le_of_ble_eq_true rfl) (Nat.le_of_ble_eq_true rfl) rfl rfl dX10_two_82 rfl (c_X10_has_11 ?_)
      rw [show haF 1 1 (nI v) y = y from rfl]
      refine Kq_i (k' := 3) (sl' := 18) rfl rfl ?_
      refine V_iconst 86 (1) rfl dX10_two_85 rfl ?_
      refine V_iload 88 0 rfl dX10_two_86 rfl ?_
      refine V_isub 89 dX10_two_88 rfl ?_
      refine V_rw (show _ = (0 : Int32) from by decide) ?_
      refine V_iload 91 1 rfl dX10_two_89 rfl ?_
      refine V_iload_n 92 7 rfl rfl dX10_two_91 rfl ?_
      refine V_iload_n 93 8 rfl rfl dX10_two_92 rfl ?_
      refine V_callS (K' := 0) (S' := 0) 96 4 [.int 0, .int 1, .int (nI v), .int y] mkX10_has lkX10_319 rfl (Nat.le_of_ble_eq_true rfl) (Nat.le_of_ble_eq_true rfl) (Nat.le_of_ble_eq_true rfl) (Nat.le_of_ble_eq_true rfl) rfl rfl dX10_two_93 rfl (c_X10_has_01 ?_)
      rw [show haF 0 1 (nI v) y = y from rfl]
      refine Kq_i (k' := 3) (sl' := 18) rfl rfl ?_
      refine V_icmp_lt 139 99 rfl dX10_two_96 rfl (fun c96 => absurd c96 (Int32.lt_irrefl)) (fun c96 => ?_)
      refine V_iinc 102 5 rfl 2 [(4, .int 2), (9, .int 1), (8, .int 1), (7, .int 3), (6, .int ((nI v) + (nI v))), (5, .int 0), (0, rf G 0), (1, .int (nI v)), (2, .int y), (3, .int 2)] (by decide) (by decide) rfl dX10_two_99 rfl ?_
      refine V_iload 104 5 rfl dX10_two_102 rfl ?_
      refine V_iconst 105 (-1) rfl dX10_two_104 rfl ?_
      refine V_icmp_ne 139 108 rfl dX10_two_105 rfl (fun c105 => ?_) (fun c105 => absurd c105 (by decide))
      refine V_iinc 142 3 rfl 4 [(7, .int 4), (4, .int 2), (9, .int 1), (8, .int 1), (6, .int ((nI v) + (nI v))), (5, .int 0), (0, rf G 0), (1, .int (nI v)), (2, .int y), (3, .int 2)] (by decide) (by decide) rfl dX10_two_139 rfl ?_
      refine V_goto 35 rfl dX10_two_142 ?_
      refine V_iload 37 0 rfl dX10_two_35 rfl ?_
      refine V_iconst 38 (4) rfl dX10_two_37 rfl ?_
      refine V_icmp_ge 145 41 rfl dX10_two_38 rfl (fun c38 => ?_) (fun c38 => absurd c38 (by decide))
      refine V_iload_n 146 9 rfl rfl dX10_two_145 rfl ?_
      refine V_if_ne 154 149 rfl dX10_two_146 rfl (fun c146 => ?_) (fun c146 => absurd c146 (by decide))
      refine V_iload_n 155 9 rfl rfl dX10_two_154 rfl ?_
      refine V_iconst 156 (1) rfl dX10_two_155 rfl ?_
      refine V_icmp_ne 164 159 rfl dX10_two_156 rfl (fun c156 => ?_) (fun c156 => absurd c156 (by decide))
      refine V_iload 166 4 rfl dX10_two_164 rfl ?_
      refine V_ret_i rfl rfl (Nat.le_of_ble_eq_true rfl) (fun h => absurd h (by decide)) (Nat.le_of_ble_eq_true rfl) (hq I FrQ.rf) dX10_two_166
