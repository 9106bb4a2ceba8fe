/-! ===== fleet ===== -/
def tkV (K : CO) (f : DV → Int32) (D : DV) (g m : Nat) : Int32 := match nOf (D m) with
  | some h => if D (30 + m) = 1 then 9 - alS K f D m h g 0 / 10 else 0
  | none => 0
def tkS (K : CO) (f : DV → Int32) (D : DV) (g s : Nat) : Nat → Int32
  | 0 => 0
  | m + 1 => tkS K f D g s m + (if (nI s >>> (nI m &&& 31)) &&& 1 = 1 then tkV K f D g m else 0)
def okB (D : DV) (s : Nat) : Nat → Bool
  | 0 => true
  | m + 1 => okB D s m && (decide ((nI s >>> (nI m &&& 31)) &&& 1 = 0) || (decide (D (30 + m) = 1) && decide (¬ D m = -1)))
def flF (K : CO) (f : DV → Int32) (D : DV) (g n : Nat) : Nat → Int32
  | 0 => -1
  | s + 1 => if okB D s (cM K) = true ∧ nI n ≤ tkS K f D g s (cM K) ∧ (flF K f D g n s = -1 ∨ bcI (nI s) < bcI (flF K f D g n s)) then nI s else flF K f D g n s
def aN (D : DV) : Nat → Nat
  | 0 => 0
  | m + 1 => aN D m + (if D (30 + m) = 1 ∧ ¬ D m = -1 then 2 ^ m else 0)
theorem aN_lt {D : DV} : ∀ m, aN D m < 2 ^ m := by
  intro m
  induction m with
  | zero => exact Nat.zero_lt_one
  | succ m ih =>
    rw [aN, Nat.pow_succ]
    split <;> omega
theorem pow6 {M : Nat} (h : M ≤ 6) : 2 ^ M ≤ 64 := by
  rcases (show M = 0 ∨ M = 1 ∨ M = 2 ∨ M = 3 ∨ M = 4 ∨ M = 5 ∨ M = 6 by omega) with rfl | rfl | rfl | rfl | rfl | rfl | rfl <;> decide
theorem shl2 : ∀ M, M < 7 → (1 : Int32) <<< (nI M &&& 31) = nI (2 ^ M) := by decide +kernel
theorem ab_or : ∀ m, m < 6 → ∀ A, A < 64 → A < 2 ^ m → nI A ||| ((1 : Int32) <<< (nI m &&& 31)) = nI (A + 2 ^ m) := by decide +kernel
theorem ab_bit : ∀ M, M < 6 → ∀ A, A < 64 → A < 2 ^ M → ∀ m, m < 6 → (nI (A + 2 ^ M) >>> (nI m &&& 31)) &&& 1 = if m = M then 1 else (nI A >>> (nI m &&& 31)) &&& 1 := by decide +kernel
theorem ab_hi : ∀ A, A < 64 → ∀ M, M < 7 → A < 2 ^ M → ∀ m, m < 6 → M ≤ m → (nI A >>> (nI m &&& 31)) &&& 1 = 0 := by decide +kernel
theorem ab_sub : ∀ s, s < 64 → ∀ A, A < 64 → ((nI s &&& (nI A ^^^ (-1))) = 0 → s ≤ A) ∧ ((nI s &&& (nI A ^^^ (-1))) = 0 ↔ ∀ m, m < 6 → (nI s >>> (nI m &&& 31)) &&& 1 = 1 → (nI A >>> (nI m &&& 31)) &&& 1 = 1) := by decide +kernel
theorem on_64 : ∀ j, j < 64 → onF (nI j) 8 = bcI (nI j) := by decide +kernel
theorem aN_bit {D : DV} : ∀ M, M ≤ 6 → ∀ m, m < M → ((nI (aN D M) >>> (nI m &&& 31)) &&& 1 = 1 ↔ D (30 + m) = 1 ∧ ¬ D m = -1) := by
  intro M
  induction M with
  | zero => intro _ m hm; omega
  | succ M ih =>
    intro hM m hm
    have a1 := aN_lt (D := D) M
    have a2 := pow6 (show M ≤ 6 by omega)
    rw [aN]
    split
    · rename_i c
      rw [ab_bit M (by omega) _ (by omega) a1 m (by omega)]
      by_cases e : m = M
      · subst e
        rw [if_pos rfl]
        exact ⟨fun _ => c, fun _ => rfl⟩
      · rw [if_neg e]; exact ih (by omega) m (by omega)
    · rename_i c
      rw [Nat.add_zero]
      by_cases e : m = M
      · subst e
        rw [ab_hi _ (by omega) m (by omega) a1 m (by omega) (Nat.le_refl _)]
        exact ⟨fun q => absurd q (by decide), fun q => absurd q c⟩
      · exact ih (by omega) m (by omega)
theorem okB_iff {D : DV} {s : Nat} : ∀ M, okB D s M = true ↔ ∀ m, m < M → (nI s >>> (nI m &&& 31)) &&& 1 = 1 → D (30 + m) = 1 ∧ ¬ D m = -1 := by
  intro M
  induction M with
  | zero => exact ⟨fun _ m hm => absurd hm (Nat.not_lt_zero _), fun _ => rfl⟩
  | succ M ih =>
    rw [okB, Bool.and_eq_true, Bool.or_eq_true, Bool.and_eq_true, decide_eq_true_iff, decide_eq_true_iff, decide_eq_true_iff, ih]
    constructor
    · intro h m hm e
      by_cases c : m = M
      · subst c
        rcases h.2 with q | q
        · rw [q] at e; exact absurd e (by decide)
        · exact q
      · exact h.1 m (by omega) e
    · intro h
      refine ⟨fun m hm => h m (by omega), ?_⟩
      rcases and01 (nI s >>> (nI M &&& 31)) with q | q
      · exact Or.inl q
      · exact Or.inr (h M (by omega) q)
theorem sub_iff {D : DV} {s M : Nat} (hM : M ≤ 6) (hs : s < 2 ^ M) : (nI s &&& (nI (aN D M) ^^^ (-1))) = 0 ↔ okB D s M = true := by
  have a1 := aN_lt (D := D) M
  have a2 := pow6 hM
  rw [(ab_sub s (by omega) (aN D M) (by omega)).2, okB_iff]
  constructor
  · intro h m hm e
    exact (aN_bit M hM m hm).mp (h m (by omega) e)
  · intro h m hm e
    by_cases c : m < M
    · exact (aN_bit M hM m c).mpr (h m c e)
    · rw [ab_hi s (by omega) M (by omega) hs m hm (by omega)] at e
      exact absurd e (by decide)
theorem flF_top {K : CO} {f : DV → Int32} {D : DV} {g n : Nat} (h6 : cM K ≤ 6) : flF K f D g n (2 ^ cM K) = flF K f D g n (aN D (cM K) + 1) := by
  have a1 := aN_lt (D := D) (cM K)
  have a2 := pow6 h6
  have key : ∀ k, aN D (cM K) + 1 + k ≤ 2 ^ cM K → flF K f D g n (aN D (cM K) + 1 + k) = flF K f D g n (aN D (cM K) + 1) := by
    intro k
    induction k with
    | zero => intro _; rfl
    | succ k ih =>
      intro hk
      rw [← ih (by omega), ← Nat.add_assoc, flF, if_neg]
      intro q
      have := (ab_sub (aN D (cM K) + 1 + k) (by omega) (aN D (cM K)) (by omega)).1 ((sub_iff h6 (by omega)).mpr q.1)
      omega
  have := key (2 ^ cM K - (aN D (cM K) + 1)) (by omega)
  rw [show aN D (cM K) + 1 + (2 ^ cM K - (aN D (cM K) + 1)) = 2 ^ cM K by omega] at this
  exact this
theorem flF_v {K : CO} {f : DV → Int32} {D : DV} {g n : Nat} : ∀ s, flF K f D g n s = -1 ∨ ∃ j, j < s ∧ flF K f D g n s = nI j := by
  intro s
  induction s with
  | zero => exact Or.inl rfl
  | succ s ih =>
    rw [flF]
    split
    · exact Or.inr ⟨s, by omega, rfl⟩
    · rcases ih with e | ⟨j, hj, e⟩
      · exact Or.inl e
      · exact Or.inr ⟨j, by omega, e⟩
set_option maxHeartbeats 4000000 in
theorem c_X0_takenBy {G : Gx} {d : Nat} {I : FI} {R : FR} {J : FJ} {Q : Po} (hRK : RK R) {K : CO} {f : DV → Int32} {D : DV} {g s : Nat} (h6 : cM K ≤ 6) (hT : ∀ m, m < cM K → I 49 m = tkV K f D g m) (hs : s < 2 ^ cM K) (hq : Q (.inl (some (.int (tkS K f D g s (cM K))))) 103 I R J) : Cc G mX0_takenBy d 0 0 [rf G 43, .int (nI s)] 103 I R J Q := by
  have a2 := pow6 h6
  have L : ∀ i, i ≤ 6 → V G mX0_takenBy d 0 0 0 0 4 [(3, .int (nI i)), (2, .int (tkS K f D g s (min i (cM K)))), (0, rf G 43), (1, .int (nI s))] [] 103 I R J Q := by
    refine loopd 6 ?_ (fun i hi ih => ?_)
    · refine V_iload_n 5 0 rfl rfl dX0_takenBy_4 rfl ?_
      refine V_bipush 7 (6) rfl dX0_takenBy_5 rfl ?_
      refine V_icmp_ge 38 10 rfl dX0_takenBy_7 rfl (fun c7 => ?_) (fun c7 => absurd (Int32.le_refl _) c7)
      refine V_iload_n 39 1 rfl rfl dX0_takenBy_38 rfl ?_
      refine V_ret_i rfl rfl (Nat.le_of_ble_eq_true rfl) (fun h => absurd h (by decide)) (Nat.le_of_ble_eq_true rfl) (by rw [Nat.min_eq_right h6]; exact hq) dX0_takenBy_39
    · by_cases c : i < cM K
      · refine V_iload_n 5 0 rfl rfl dX0_takenBy_4 rfl ?_
        refine V_bipush 7 (6) rfl dX0_takenBy_5 rfl ?_
        refine V_icmp_ge 38 10 rfl dX0_takenBy_7 rfl (fun c7 => absurd c7 (nI_ge (b := 6) hi (by decide))) (fun c7 => ?_)
        refine V_iload_n 11 1 rfl rfl dX0_takenBy_10 rfl ?_
        refine V_iload_n 12 3 rfl rfl dX0_takenBy_11 rfl ?_
        refine V_iload_n 13 0 rfl rfl dX0_takenBy_12 rfl ?_
        refine V_ishr 14 dX0_takenBy_13 rfl ?_
        refine V_iconst 15 (1) rfl dX0_takenBy_14 rfl ?_
        refine V_iand 16 dX0_takenBy_15 rfl ?_
        refine V_iconst 17 (1) rfl dX0_takenBy_16 rfl ?_
        refine V_icmp_ne 29 20 rfl dX0_takenBy_17 rfl (fun c17 => ?_) (fun c17 => ?_)
        · refine V_iconst 30 (0) rfl dX0_takenBy_29 rfl ?_
          refine V_iadd 31 dX0_takenBy_30 rfl ?_
          refine V_rw (show _ = tkS K f D g s (min (i + 1) (cM K)) from by rw [Nat.min_eq_left (show i + 1 ≤ cM K from c), Nat.min_eq_left (show i ≤ cM K by omega), tkS]; first | rw [if_pos c17] | rw [if_neg c17]) ?_
          refine V_istore_n 32 [(2, .int (tkS K f D g s (min (i + 1) (cM K)))), (3, .int (nI i)), (0, rf G 43), (1, .int (nI s))] (by decide) rfl rfl dX0_takenBy_31 rfl ?_
          refine V_iinc 35 1 rfl (nI (i + 1)) [(3, .int (nI (i + 1))), (2, .int (tkS K f D g s (min (i + 1) (cM K)))), (0, rf G 43), (1, .int (nI s))] (nI_1 _) (by decide) rfl dX0_takenBy_32 rfl ?_
          refine V_goto 4 rfl dX0_takenBy_35 ?_
          exact V_lv [0, 1, 2, 3] rfl ih
        · refine V_aload_n 21 2 rfl _ rfl rfl dX0_takenBy_20 rfl ?_
          refine V_getR 24 43 0 5 49 (hRK 43 5 (by decide) (by decide) (by decide)) flX0_27 rfl rfl rfl (by decide) dX0_takenBy_21 rfl ?_
          refine V_iload_n 25 0 rfl rfl dX0_takenBy_24 rfl ?_
          refine V_ialdN 26 49 6 i (tkV K f D g i) (hT i c) (by omega) (by decide) rfl (by decide) dX0_takenBy_25 rfl ?_
          refine V_goto 30 rfl dX0_takenBy_26 ?_
          refine V_iadd 31 dX0_takenBy_30 rfl ?_
          refine V_rw (show _ = tkS K f D g s (min (i + 1) (cM K)) from by rw [Nat.min_eq_left (show i + 1 ≤ cM K from c), Nat.min_eq_left (show i ≤ cM K by omega), tkS]; first | rw [if_pos c17] | rw [if_neg c17]) ?_
          refine V_istore_n 32 [(2, .int (tkS K f D g s (min (i + 1) (cM K)))), (3, .int (nI i)), (0, rf G 43), (1, .int (nI s))] (by decide) rfl rfl dX0_takenBy_31 rfl ?_
          refine V_iinc 35 1 rfl (nI (i + 1)) [(3, .int (nI (i + 1))), (2, .int (tkS K f D g s (min (i + 1) (cM K)))), (0, rf G 43), (1, .int (nI s))] (nI_1 _) (by decide) rfl dX0_takenBy_32 rfl ?_
          refine V_goto 4 rfl dX0_takenBy_35 ?_
          exact V_lv [0, 1, 2, 3] rfl ih
      · refine V_iload_n 5 0 rfl rfl dX0_takenBy_4 rfl ?_
        refine V_bipush 7 (6) rfl dX0_takenBy_5 rfl ?_
        refine V_icmp_ge 38 10 rfl dX0_takenBy_7 rfl (fun c7 => absurd c7 (nI_ge (b := 6) hi (by decide))) (fun c7 => ?_)
        refine V_iload_n 11 1 rfl rfl dX0_takenBy_10 rfl ?_
        refine V_iload_n 12 3 rfl rfl dX0_takenBy_11 rfl ?_
        refine V_iload_n 13 0 rfl rfl dX0_takenBy_12 rfl ?_
        refine V_ishr 14 dX0_takenBy_13 rfl ?_
        refine V_iconst 15 (1) rfl dX0_takenBy_14 rfl ?_
        refine V_iand 16 dX0_takenBy_15 rfl ?_
        refine V_iconst 17 (1) rfl dX0_takenBy_16 rfl ?_
        refine V_icmp_ne 29 20 rfl dX0_takenBy_17 rfl (fun c17 => ?_) (fun c17 => absurd c17 (by rw [ab_hi s (by omega) (cM K) (by omega) hs i hi (by omega)]; decide))
        refine V_iconst 30 (0) rfl dX0_takenBy_29 rfl ?_
        refine V_iadd 31 dX0_takenBy_30 rfl ?_
        refine V_rw (show _ = tkS K f D g s (min (i + 1) (cM K)) from by rw [Nat.min_eq_right (show cM K ≤ i + 1 by omega), Nat.min_eq_right (show cM K ≤ i by omega)]; exact Int32.add_zero _) ?_
        refine V_istore_n 32 [(2, .int (tkS K f D g s (min (i + 1) (cM K)))), (3, .int (nI i)), (0, rf G 43), (1, .int (nI s))] (by decide) rfl rfl dX0_takenBy_31 rfl ?_
        refine V_iinc 35 1 rfl (nI (i + 1)) [(3, .int (nI (i + 1))), (2, .int (tkS K f D g s (min (i + 1) (cM K)))), (0, rf G 43), (1, .int (nI s))] (nI_1 _) (by decide) rfl dX0_takenBy_32 rfl ?_
        refine V_goto 4 rfl dX0_takenBy_35 ?_
        exact V_lv [0, 1, 2, 3] rfl ih
  show V _ _ _ _ _ _ _ _ [(0, rf G 43), (1, .int (nI s))] [] _ _ _ _ _
  refine V_iconst 1 (0) rfl dX0_takenBy_0 rfl ?_
  refine V_istore_n 2 [(2, .int 0), (0, rf G 43), (1, .int (nI s))] (by decide) rfl rfl dX0_takenBy_1 rfl ?_
  refine V_iconst 3 (0) rfl dX0_takenBy_2 rfl ?_
  refine V_istore_n 4 [(3, .int 0), (2, .int 0), (0, rf G 43), (1, .int (nI s))] (by decide) rfl rfl dX0_takenBy_3 rfl ?_
  have L0 := L 0 (Nat.zero_le _)
  rw [Nat.zero_min] at L0
  exact V_lv [0, 1, 2, 3] rfl L0
set_option maxHeartbeats 8000000 in
theorem c_X0_fewestMen {G : Gx} {d : Nat} {I : FI} {R : FR} {J : FJ} {Q : Po} {c l b : Nat} {K : CO} {f : DV → Int32} {D : DV} (hX : RC I R c l b K f D) {g n : Nat} (hg : g < cG K) (hn : n ≤ 99) (hq : ∀ I', FrQ I I' → Q (.inl (some (.int (flF K f D g n (2 ^ cM K))))) 103 I' R J) : Cc G mX0_fewestMen (d + 10) 0 0 [rf G 43, rf G 3, rf G 18, .int (nI g), .int (nI n)] 103 I R J Q := by
  have hXc := hX
  obtain ⟨hRS, hc, hl, hb, hC, hW, hD, hI, hL⟩ := hXc
  have hRK := hRS.K
  have hR3c : R 3 0 = some c := hRS 3 0 (by decide)
  have hR3l : R 3 1 = some l := hRS 3 1 (by decide)
  have hR32 : R 3 2 = some 16 := hRS 3 2 (by decide)
  have hR33 : R 3 3 = some 17 := hRS 3 3 (by decide)
  have h8 := hW.1
  have hg6 := hW.2.1
  have h6 := hW.2.2.1
  have hWD := hI.1
  have hFl := hI.1.1
  have a2 := pow6 h6
  rw [flF_top h6] at hq
  have L2 : ∀ I1, FrQ I I1 → (∀ m, m < cM K → I1 49 m = tkV K f D g m) → ∀ s, s ≤ aN D (cM K) + 1 → V G mX0_fewestMen (d + 10) 0 0 0 0 96 [(7, .int (nI s)), (6, .int (flF K f D g n s)), (5, .int (nI (aN D (cM K)))), (0, rf G 43), (1, rf G 3), (2, rf G 18), (3, .int (nI g)), (4, .int (nI n))] [] 103 I1 R J Q := by
    intro I1 hF1 hT1
    have a1 := aN_lt (D := D) (cM K)
    refine loopd (aN D (cM K) + 1) ?_ (fun s hs ih => ?_)
    · refine V_iload 98 0 rfl dX0_fewestMen_96 rfl ?_
      refine V_iload 100 2 rfl dX0_fewestMen_98 rfl ?_
      refine V_icmp_gt 153 103 rfl dX0_fewestMen_100 rfl (fun c100 => ?_) (fun c100 => absurd ((nI_ltI (by omega) (by omega)).mpr (Nat.lt_succ_self _)) c100)
      refine V_iload 155 1 rfl dX0_fewestMen_153 rfl ?_
      refine V_ret_i rfl rfl (Nat.le_of_ble_eq_true rfl) (fun h => absurd h (by decide)) (Nat.le_of_ble_eq_true rfl) (hq I1 hF1) dX0_fewestMen_155
    · have hs2 : s < 2 ^ cM K := by omega
      have hsub := sub_iff (D := D) h6 hs2
      refine V_iload 98 0 rfl dX0_fewestMen_96 rfl ?_
      refine V_iload 100 2 rfl dX0_fewestMen_98 rfl ?_
      refine V_icmp_gt 153 103 rfl dX0_fewestMen_100 rfl (fun c100 => absurd ((nI_ltI (by omega) (by omega)).mp c100) (by omega)) (fun c100 => ?_)
      refine V_iload 105 0 rfl dX0_fewestMen_103 rfl ?_
      refine V_iload 107 2 rfl dX0_fewestMen_105 rfl ?_
      refine V_iconst 108 (-1) rfl dX0_fewestMen_107 rfl ?_
      refine V_ixor 109 dX0_fewestMen_108 rfl ?_
      refine V_iand 110 dX0_fewestMen_109 rfl ?_
      refine V_if_ne 147 113 rfl dX0_fewestMen_110 rfl (fun c110 => ?_) (fun c110 => ?_)
      · refine V_iinc 150 0 rfl (nI (s + 1)) [(7, .int (nI (s + 1))), (6, .int (flF K f D g n s)), (5, .int (nI (aN D (cM K)))), (0, rf G 43), (1, rf G 3), (2, rf G 18), (3, .int (nI g)), (4, .int (nI n))] (nI_1 _) (by decide) rfl dX0_fewestMen_147 rfl ?_
        refine V_goto 96 rfl dX0_fewestMen_150 ?_
        have eS : flF K f D g n (s + 1) = flF K f D g n s := by
          rw [flF, if_neg]
          intro q
          first | exact c110 (hsub.mpr q.1) | exact Int32.not_lt.mpr q.2.1 c121 | exact q.2.2.elim c127 (fun r => Int32.not_lt.mpr c140 r)
        rw [eS] at ih
        exact V_lv [0, 1, 2, 3, 4, 5, 6, 7] rfl ih
      · refine V_aload_n 114 3 rfl _ rfl rfl dX0_fewestMen_113 rfl ?_
        refine V_iload 116 0 rfl dX0_fewestMen_114 rfl ?_
        refine V_callV (K' := 0) (S' := 0) 119 43 0 1 [.int (nI s)] mkX0_takenBy lkX0_135 (by decide) rfl rfl (by decide) rfl (Nat.le_of_ble_eq_true rfl) (Nat.le_of_ble_eq_true rfl) (Nat.le_of_ble_eq_true rfl) (Nat.le_of_ble_eq_true rfl) rfl rfl dX0_fewestMen_116 rfl (c_X0_takenBy hRK h6 hT1 hs2 ?_)
        refine Kq_i (k' := 0) (sl' := 0) rfl rfl ?_
        refine V_iload 121 7 rfl dX0_fewestMen_119 rfl ?_
        refine V_icmp_lt 147 124 rfl dX0_fewestMen_121 rfl (fun c121 => ?_) (fun c121 => ?_)
        · refine V_iinc 150 0 rfl (nI (s + 1)) [(7, .int (nI (s + 1))), (6, .int (flF K f D g n s)), (5, .int (nI (aN D (cM K)))), (0, rf G 43), (1, rf G 3), (2, rf G 18), (3, .int (nI g)), (4, .int (nI n))] (nI_1 _) (by decide) rfl dX0_fewestMen_147 rfl ?_
          refine V_goto 96 rfl dX0_fewestMen_150 ?_
          have eS : flF K f D g n (s + 1) = flF K f D g n s := by
            rw [flF, if_neg]
            intro q
            first | exact c110 (hsub.mpr q.1) | exact Int32.not_lt.mpr q.2.1 c121 | exact q.2.2.elim c127 (fun r => Int32.not_lt.mpr c140 r)
          rw [eS] at ih
          exact V_lv [0, 1, 2, 3, 4, 5, 6, 7] rfl ih
        · refine V_iload 126 1 rfl dX0_fewestMen_124 rfl ?_
          refine V_iconst 127 (-1) rfl dX0_fewestMen_126 rfl ?_
          refine V_icmp_eq 143 130 rfl dX0_fewestMen_127 rfl (fun c127 => ?_) (fun c127 => ?_)
          · refine V_iload 145 0 rfl dX0_fewestMen_143 rfl ?_
            refine V_istore 147 [(6, .int (nI s)), (7, .int (nI s)), (5, .int (nI (aN D (cM K)))), (0, rf G 43), (1, rf G 3), (2, rf G 18), (3, .int (nI g)), (4, .int (nI n))] (by decide) rfl dX0_fewestMen_145 rfl ?_
            refine V_iinc 150 1 rfl (nI (s + 1)) [(7, .int (nI (s + 1))), (6, .int (nI s)), (5, .int (nI (aN D (cM K)))), (0, rf G 43), (1, rf G 3), (2, rf G 18), (3, .int (nI g)), (4, .int (nI n))] (nI_1 _) (by decide) rfl dX0_fewestMen_147 rfl ?_
            refine V_goto 96 rfl dX0_fewestMen_150 ?_
            have eS : flF K f D g n (s + 1) = nI s := by
              rw [flF, if_pos ⟨hsub.mp c110, Int32.not_lt.mp c121, by first | exact Or.inl c127 | exact Or.inr (Int32.not_le.mp c140)⟩]
            rw [eS] at ih
            exact V_lv [0, 1, 2, 3, 4, 5, 6, 7] rfl ih
          · refine V_iload 132 0 rfl dX0_fewestMen_130 rfl ?_
            refine V_callS (K' := 0) (S' := 0) 135 1 [.int (nI s)] mkJ6_bitCount_0f7a4 lkX0_71 rfl (Nat.le_of_ble_eq_true rfl) (Nat.le_of_ble_eq_true rfl) (Nat.le_of_ble_eq_true rfl) (Nat.le_of_ble_eq_true rfl) rfl rfl dX0_fewestMen_132 rfl (c_J6_bitCount ?_)
            refine Kq_i (k' := 0) (sl' := 0) rfl rfl ?_
            refine V_iload 137 1 rfl dX0_fewestMen_135 rfl ?_
            refine V_callS (K' := 0) (S' := 0) 140 1 [.int (flF K f D g n s)] mkJ6_bitCount_0f7a4 lkX0_71 rfl (Nat.le_of_ble_eq_true rfl) (Nat.le_of_ble_eq_true rfl) (Nat.le_of_ble_eq_true rfl) (Nat.le_of_ble_eq_true rfl) rfl rfl dX0_fewestMen_137 rfl (c_J6_bitCount ?_)
            refine Kq_i (k' := 0) (sl' := 0) rfl rfl ?_
            refine V_icmp_ge 147 143 rfl dX0_fewestMen_140 rfl (fun c140 => ?_) (fun c140 => ?_)
            · refine V_iinc 150 0 rfl (nI (s + 1)) [(7, .int (nI (s + 1))), (6, .int (flF K f D g n s)), (5, .int (nI (aN D (cM K)))), (0, rf G 43), (1, rf G 3), (2, rf G 18), (3, .int (nI g)), (4, .int (nI n))] (nI_1 _) (by decide) rfl dX0_fewestMen_147 rfl ?_
              refine V_goto 96 rfl dX0_fewestMen_150 ?_
              have eS : flF K f D g n (s + 1) = flF K f D g n s := by
                rw [flF, if_neg]
                intro q
                first | exact c110 (hsub.mpr q.1) | exact Int32.not_lt.mpr q.2.1 c121 | exact q.2.2.elim c127 (fun r => Int32.not_lt.mpr c140 r)
              rw [eS] at ih
              exact V_lv [0, 1, 2, 3, 4, 5, 6, 7] rfl ih
            · refine V_iload 145 0 rfl dX0_fewestMen_143 rfl ?_
              refine V_istore 147 [(6, .int (nI s)), (7, .int (nI s)), (5, .int (nI (aN D (cM K)))), (0, rf G 43), (1, rf G 3), (2, rf G 18), (3, .int (nI g)), (4, .int (nI n))] (by decide) rfl dX0_fewestMen_145 rfl ?_
              refine V_iinc 150 1 rfl (nI (s + 1)) [(7, .int (nI (s + 1))), (6, .int (nI s)), (5, .int (nI (aN D (cM K)))), (0, rf G 43), (1, rf G 3), (2, rf G 18), (3, .int (nI g)), (4, .int (nI n))] (nI_1 _) (by decide) rfl dX0_fewestMen_147 rfl ?_
              refine V_goto 96 rfl dX0_fewestMen_150 ?_
              have eS : flF K f D g n (s + 1) = nI s := by
                rw [flF, if_pos ⟨hsub.mp c110, Int32.not_lt.mp c121, by first | exact Or.inl c127 | exact Or.inr (Int32.not_le.mp c140)⟩]
              rw [eS] at ih
              exact V_lv [0, 1, 2, 3, 4, 5, 6, 7] rfl ih
  have L : ∀ i, i ≤ cM K → ∀ I1, FrQ I I1 → (∀ m, m < i → I1 49 m = tkV K f D g m) → V G mX0_fewestMen (d + 10) 0 0 0 0 6 [(6, .int (nI i)), (5, .int (nI (aN D i))), (0, rf G 43), (1, rf G 3), (2, rf G 18), (3, .int (nI g)), (4, .int (nI n))] [] 103 I1 R J Q := by
    refine loopd (cM K) (fun I1 hF1 hT1 => ?_) (fun i hi ih I1 hF1 hT1 => ?_)
    · have hX1 := hX.fr hF1
      refine V_iload 8 0 rfl dX0_fewestMen_6 rfl ?_
      refine V_aload_n 9 3 rfl _ rfl rfl dX0_fewestMen_8 rfl ?_
      refine V_getR 12 3 7 0 c hR3c flX0_37 rfl rfl rfl (by decide) dX0_fewestMen_9 rfl ?_
      refine V_getI 15 c 2 8 (nI (cM K)) hX1.2.2.2.2.1.2.2.1 flX0_84 rfl (ly_c hc).1 rfl (by omega) dX0_fewestMen_12 rfl ?_
      refine V_icmp_ge 90 18 rfl dX0_fewestMen_15 rfl (fun c15 => ?_) (fun c15 => absurd (Int32.le_refl _) c15)
      refine V_iconst 91 (-1) rfl dX0_fewestMen_90 rfl ?_
      refine V_istore 93 [(6, .int (-1)), (5, .int (nI (aN D (cM K)))), (0, rf G 43), (1, rf G 3), (2, rf G 18), (3, .int (nI g)), (4, .int (nI n))] (by decide) rfl dX0_fewestMen_91 rfl ?_
      refine V_iconst 94 (0) rfl dX0_fewestMen_93 rfl ?_
      refine V_istore 96 [(7, .int 0), (6, .int (-1)), (5, .int (nI (aN D (cM K)))), (0, rf G 43), (1, rf G 3), (2, rf G 18), (3, .int (nI g)), (4, .int (nI n))] (by decide) rfl dX0_fewestMen_94 rfl ?_
      exact V_lv [0, 1, 2, 3, 4, 5, 6, 7] rfl (L2 I1 hF1 hT1 0 (Nat.zero_le _))
    · have hX1 := hX.fr hF1
      have a1 := aN_lt (D := D) i
      have a3 : 2 ^ i ≤ 64 := pow6 (by omega)
      obtain ⟨I2, eI2⟩ : ∃ I2, I2 = up2 I1 49 i 0 := ⟨_, rfl⟩
      have hF2 : FrQ I I2 := by rw [eI2]; exact hF1.u (by decide)
      have hX2 := hX.fr hF2
      have hT2 : ∀ m, m < i + 1 → I2 49 m = if m = i then 0 else tkV K f D g m := by
        intro m hm
        rw [eI2, up2_s]
        by_cases e : m = i
        · subst e; rw [upd_s, if_pos rfl]
        · rw [upd_n e, if_neg e]; exact hT1 m (by omega)
      have hno : tkV K f D g i = 0 → aN D (i + 1) = aN D i → V G mX0_fewestMen (d + 10) 0 0 0 0 6 [(6, .int (nI (i + 1))), (5, .int (nI (aN D i))), (0, rf G 43), (1, rf G 3), (2, rf G 18), (3, .int (nI g)), (4, .int (nI n))] [] 103 I2 R J Q := by
        intro e1 e2
        rw [← e2]
        exact ih I2 hF2 (fun m hm => (hT2 m hm).trans (by by_cases e : m = i; rw [if_pos e, e, e1]; rw [if_neg e]))
      rcases hWD.2.1 i (by omega) with e | ⟨h, hh, e⟩
      · refine V_iload 8 0 rfl dX0_fewestMen_6 rfl ?_
        refine V_aload_n 9 3 rfl _ rfl rfl dX0_fewestMen_8 rfl ?_
        refine V_getR 12 3 7 0 c hR3c flX0_37 rfl rfl rfl (by decide) dX0_fewestMen_9 rfl ?_
        refine V_getI 15 c 2 8 (nI (cM K)) hX1.2.2.2.2.1.2.2.1 flX0_84 rfl (ly_c hc).1 rfl (by omega) dX0_fewestMen_12 rfl ?_
        refine V_icmp_ge 90 18 rfl dX0_fewestMen_15 rfl (fun c15 => absurd c15 (nI_ge hi (by omega))) (fun c15 => ?_)
        refine V_aload_n 19 2 rfl _ rfl rfl dX0_fewestMen_18 rfl ?_
        refine V_getR 22 43 0 5 49 (hRK 43 5 (by decide) (by decide) (by decide)) flX0_27 rfl rfl rfl (by decide) dX0_fewestMen_19 rfl ?_
        refine V_iload 24 0 rfl dX0_fewestMen_22 rfl ?_
        refine V_iconst 25 (0) rfl dX0_fewestMen_24 rfl ?_
        refine V_iastN 26 49 6 i (by omega) (by decide) rfl (by decide) dX0_fewestMen_25 rfl ?_
        rw [← eI2]
        refine V_aload_n 27 4 rfl _ rfl rfl dX0_fewestMen_26 rfl ?_
        refine V_iload 29 0 rfl dX0_fewestMen_27 rfl ?_
        refine V_callV (K' := 0) (S' := 0) 32 18 3 1 [.int (nI i)] mkX3_lives lkX0_87 (by decide) rfl rfl (by decide) rfl (Nat.le_of_ble_eq_true rfl) (Nat.le_of_ble_eq_true rfl) (Nat.le_of_ble_eq_true rfl) (Nat.le_of_ble_eq_true rfl) rfl rfl dX0_fewestMen_29 rfl (c_X3_lives_18 hRK hX2.2.2.2.2.2.2.1 hFl (by omega) (fun e1 => ?_) (fun e1 => ?_))
        · refine Kq_i (k' := 0) (sl' := 0) rfl rfl ?_
          refine V_if_eq 84 35 rfl dX0_fewestMen_32 rfl (fun c32 => absurd c32 (by decide)) (fun c32 => ?_)
          refine V_aload_n 36 4 rfl _ rfl rfl dX0_fewestMen_35 rfl ?_
          refine V_getR 39 18 3 1 20 (hRK 18 1 (by decide) (by decide) (by decide)) flX0_129 rfl rfl rfl (by decide) dX0_fewestMen_36 rfl ?_
          refine V_iload 41 0 rfl dX0_fewestMen_39 rfl ?_
          refine V_ialdN 42 20 6 i (-1) ((hX2.2.2.2.2.2.2.1.2.1 i (by omega)).trans e) (by omega) (by decide) rfl (by decide) dX0_fewestMen_41 rfl ?_
          refine V_iconst 43 (-1) rfl dX0_fewestMen_42 rfl ?_
          refine V_icmp_eq 84 46 rfl dX0_fewestMen_43 rfl (fun c43 => ?_) (fun c43 => absurd rfl c43)
          refine V_iinc 87 0 rfl (nI (i + 1)) [(6, .int (nI (i + 1))), (5, .int (nI (aN D i))), (0, rf G 43), (1, rf G 3), (2, rf G 18), (3, .int (nI g)), (4, .int (nI n))] (nI_1 _) (by decide) rfl dX0_fewestMen_84 rfl ?_
          refine V_goto 6 rfl dX0_fewestMen_87 ?_
          exact V_lv [0, 1, 2, 3, 4, 5, 6] rfl (hno (by unfold tkV; rw [e]; rfl) (by rw [aN, if_neg (fun q => q.2 e), Nat.add_zero]))
        · refine Kq_i (k' := 0) (sl' := 0) rfl rfl ?_
          refine V_if_eq 84 35 rfl dX0_fewestMen_32 rfl (fun c32 => ?_) (fun c32 => absurd c32 (by decide))
          refine V_iinc 87 0 rfl (nI (i + 1)) [(6, .int (nI (i + 1))), (5, .int (nI (aN D i))), (0, rf G 43), (1, rf G 3), (2, rf G 18), (3, .int (nI g)), (4, .int (nI n))] (nI_1 _) (by decide) rfl dX0_fewestMen_84 rfl ?_
          refine V_goto 6 rfl dX0_fewestMen_87 ?_
          exact V_lv [0, 1, 2, 3, 4, 5, 6] rfl (hno (by unfold tkV; rw [e]; rfl) (by rw [aN, if_neg (fun q => q.2 e), Nat.add_zero]))
      · refine V_iload 8 0 rfl dX0_fewestMen_6 rfl ?_
        refine V_aload_n 9 3 rfl _ rfl rfl dX0_fewestMen_8 rfl ?_
        refine V_getR 12 3 7 0 c hR3c flX0_37 rfl rfl rfl (by decide) dX0_fewestMen_9 rfl ?_
        refine V_getI 15 c 2 8 (nI (cM K)) hX1.2.2.2.2.1.2.2.1 flX0_84 rfl (ly_c hc).1 rfl (by omega) dX0_fewestMen_12 rfl ?_
        refine V_icmp_ge 90 18 rfl dX0_fewestMen_15 rfl (fun c15 => absurd c15 (nI_ge hi (by omega))) (fun c15 => ?_)
        refine V_aload_n 19 2 rfl _ rfl rfl dX0_fewestMen_18 rfl ?_
        refine V_getR 22 43 0 5 49 (hRK 43 5 (by decide) (by decide) (by decide)) flX0_27 rfl rfl rfl (by decide) dX0_fewestMen_19 rfl ?_
        refine V_iload 24 0 rfl dX0_fewestMen_22 rfl ?_
        refine V_iconst 25 (0) rfl dX0_fewestMen_24 rfl ?_
        refine V_iastN 26 49 6 i (by omega) (by decide) rfl (by decide) dX0_fewestMen_25 rfl ?_
        rw [← eI2]
        refine V_aload_n 27 4 rfl _ rfl rfl dX0_fewestMen_26 rfl ?_
        refine V_iload 29 0 rfl dX0_fewestMen_27 rfl ?_
        refine V_callV (K' := 0) (S' := 0) 32 18 3 1 [.int (nI i)] mkX3_lives lkX0_87 (by decide) rfl rfl (by decide) rfl (Nat.le_of_ble_eq_true rfl) (Nat.le_of_ble_eq_true rfl) (Nat.le_of_ble_eq_true rfl) (Nat.le_of_ble_eq_true rfl) rfl rfl dX0_fewestMen_29 rfl (c_X3_lives_18 hRK hX2.2.2.2.2.2.2.1 hFl (by omega) (fun e1 => ?_) (fun e1 => ?_))
        · refine Kq_i (k' := 0) (sl' := 0) rfl rfl ?_
          refine V_if_eq 84 35 rfl dX0_fewestMen_32 rfl (fun c32 => absurd c32 (by decide)) (fun c32 => ?_)
          refine V_aload_n 36 4 rfl _ rfl rfl dX0_fewestMen_35 rfl ?_
          refine V_getR 39 18 3 1 20 (hRK 18 1 (by decide) (by decide) (by decide)) flX0_129 rfl rfl rfl (by decide) dX0_fewestMen_36 rfl ?_
          refine V_iload 41 0 rfl dX0_fewestMen_39 rfl ?_
          refine V_ialdN 42 20 6 i (nI h) ((hX2.2.2.2.2.2.2.1.2.1 i (by omega)).trans e) (by omega) (by decide) rfl (by decide) dX0_fewestMen_41 rfl ?_
          refine V_iconst 43 (-1) rfl dX0_fewestMen_42 rfl ?_
          refine V_icmp_eq 84 46 rfl dX0_fewestMen_43 rfl (fun c43 => absurd c43 (nI_ne (by omega))) (fun c43 => ?_)
          refine V_aload_n 47 3 rfl _ rfl rfl dX0_fewestMen_46 rfl ?_
          refine V_aload_n 48 4 rfl _ rfl rfl dX0_fewestMen_47 rfl ?_
          refine V_iload 50 0 rfl dX0_fewestMen_48 rfl ?_
          refine V_aload_n 51 4 rfl _ rfl rfl dX0_fewestMen_50 rfl ?_
          refine V_getR 54 18 3 1 20 (hRK 18 1 (by decide) (by decide) (by decide)) flX0_129 rfl rfl rfl (by decide) dX0_fewestMen_51 rfl ?_
          refine V_iload 56 0 rfl dX0_fewestMen_54 rfl ?_
          refine V_ialdN 57 20 6 i (nI h) ((hX2.2.2.2.2.2.2.1.2.1 i (by omega)).trans e) (by omega) (by decide) rfl (by decide) dX0_fewestMen_56 rfl ?_
          refine V_iload_n 58 5 rfl rfl dX0_fewestMen_57 rfl ?_
          refine V_callV (K' := 0) (S' := 0) 61 3 7 4 [rf G 18, .int (nI i), .int (nI h), .int (nI g)] mkX7_standAlone lkX0_54 (by decide) rfl rfl (by decide) rfl (Nat.le_of_ble_eq_true rfl) (Nat.le_of_ble_eq_true rfl) (Nat.le_of_ble_eq_true rfl) (Nat.le_of_ble_eq_true rfl) rfl rfl dX0_fewestMen_58 rfl (c_X7_sa hX2 hi hh hg (fun I3 hF3 hA3 => ?_))
          refine Kq_v (k' := 0) (sl' := 0) rfl rfl ?_
          refine V_aload_n 62 2 rfl _ rfl rfl dX0_fewestMen_61 rfl ?_
          refine V_getR 65 43 0 5 49 (hRK 43 5 (by decide) (by decide) (by decide)) flX0_27 rfl rfl rfl (by decide) dX0_fewestMen_62 rfl ?_
          refine V_iload 67 0 rfl dX0_fewestMen_65 rfl ?_
          refine V_aload_n 68 3 rfl _ rfl rfl dX0_fewestMen_67 rfl ?_
          refine V_callV (K' := 0) (S' := 0) 71 3 7 0 [] mkX7_nextSea lkX0_58 (by decide) rfl rfl (by decide) rfl (Nat.le_of_ble_eq_true rfl) (Nat.le_of_ble_eq_true rfl) (Nat.le_of_ble_eq_true rfl) (Nat.le_of_ble_eq_true rfl) rfl rfl dX0_fewestMen_68 rfl (c_X7_nx (hX.fr (hF2.a hl (fun a q1 _ => hF3 a q1))) hA3 (fun I4 hF4 hA4 => ?_))
          refine Kq_i (k' := 0) (sl' := 0) rfl rfl ?_
          refine V_callS (K' := 0) (S' := 0) 74 1 [.int (alS K f D i h g 0)] mkX3_fishBy lkX0_132 rfl (Nat.le_of_ble_eq_true rfl) (Nat.le_of_ble_eq_true rfl) (Nat.le_of_ble_eq_true rfl) (Nat.le_of_ble_eq_true rfl) rfl rfl dX0_fewestMen_71 rfl (c_X3_fishBy ?_)
          refine Kq_i (k' := 0) (sl' := 0) rfl rfl ?_
          refine V_iastN 75 49 6 i (by omega) (by decide) rfl (by decide) dX0_fewestMen_74 rfl ?_
          refine V_iload 77 1 rfl dX0_fewestMen_75 rfl ?_
          refine V_iconst 78 (1) rfl dX0_fewestMen_77 rfl ?_
          refine V_iload 80 0 rfl dX0_fewestMen_78 rfl ?_
          refine V_ishl 81 dX0_fewestMen_80 rfl ?_
          refine V_ior 82 dX0_fewestMen_81 rfl ?_
          refine V_rw (show _ = nI (aN D i + 2 ^ i) from ab_or i (by omega) _ (by omega) a1) ?_
          refine V_istore 84 [(5, .int (nI (aN D i + 2 ^ i))), (6, .int (nI i)), (0, rf G 43), (1, rf G 3), (2, rf G 18), (3, .int (nI g)), (4, .int (nI n))] (by decide) rfl dX0_fewestMen_82 rfl ?_
          refine V_iinc 87 1 rfl (nI (i + 1)) [(6, .int (nI (i + 1))), (5, .int (nI (aN D i + 2 ^ i))), (0, rf G 43), (1, rf G 3), (2, rf G 18), (3, .int (nI g)), (4, .int (nI n))] (nI_1 _) (by decide) rfl dX0_fewestMen_84 rfl ?_
          refine V_goto 6 rfl dX0_fewestMen_87 ?_
          have e2 : aN D (i + 1) = aN D i + 2 ^ i := by rw [aN, if_pos ⟨e1, by rw [e]; exact nI_ne (by omega)⟩]
          rw [e2] at ih
          refine V_lv [0, 1, 2, 3, 4, 5, 6] rfl (ih _ (((hF2.a hl (fun a q1 _ => hF3 a q1)).a hl hF4).u (by decide)) (fun m hm => ?_))
          rw [up2_s]
          by_cases em : m = i
          · subst em
            rw [upd_s]
            unfold tkV; rw [e, nOf_n (by omega)]; exact (if_pos e1).symm
          · rw [upd_n em, hF4 49 (by decide) (by omega), hF3 49 (by decide), hT2 m hm, if_neg em]
        · refine Kq_i (k' := 0) (sl' := 0) rfl rfl ?_
          refine V_if_eq 84 35 rfl dX0_fewestMen_32 rfl (fun c32 => ?_) (fun c32 => absurd c32 (by decide))
          refine V_iinc 87 0 rfl (nI (i + 1)) [(6, .int (nI (i + 1))), (5, .int (nI (aN D i))), (0, rf G 43), (1, rf G 3), (2, rf G 18), (3, .int (nI g)), (4, .int (nI n))] (nI_1 _) (by decide) rfl dX0_fewestMen_84 rfl ?_
          refine V_goto 6 rfl dX0_fewestMen_87 ?_
          exact V_lv [0, 1, 2, 3, 4, 5, 6] rfl (hno (by unfold tkV; rw [e, nOf_n (by omega)]; exact if_neg (by rw [e1]; decide)) (by rw [aN, if_neg (fun q => by rw [e1] at q; exact absurd q.1 (by decide)), Nat.add_zero]))
  show V _ _ _ _ _ _ _ _ [(0, rf G 43), (1, rf G 3), (2, rf G 18), (3, .int (nI g)), (4, .int (nI n))] [] _ _ _ _ _
  refine V_iconst 1 (0) rfl dX0_fewestMen_0 rfl ?_
  refine V_istore 3 [(5, .int 0), (0, rf G 43), (1, rf G 3), (2, rf G 18), (3, .int (nI g)), (4, .int (nI n))] (by decide) rfl dX0_fewestMen_1 rfl ?_
  refine V_iconst 4 (0) rfl dX0_fewestMen_3 rfl ?_
  refine V_istore 6 [(6, .int 0), (5, .int 0), (0, rf G 43), (1, rf G 3), (2, rf G 18), (3, .int (nI g)), (4, .int (nI n))] (by decide) rfl dX0_fewestMen_4 rfl ?_
  exact V_lv [0, 1, 2, 3, 4, 5, 6] rfl (L 0 (Nat.zero_le _) I FrQ.rf (fun m hm => absurd hm (Nat.not_lt_zero _)))
set_option maxHeartbeats 8000000 in
theorem c_X10_fleet {G : Gx} {d : Nat} {I : FI} {R : FR} {J : FJ} {Q : Po} {c l b : Nat} {K : CO} {f : DV → Int32} {D : DV} (hX : RC I R c l b K f D) {x y : Int32}  (hq : Ho I R J Q (ckN x (cG K) (ckW y 0 99 (.inl (flF K f D x.toNatClampNeg y.toNatClampNeg (2 ^ cM K)))))) : Cc G mX10_fleet (d + 60) 8 48 [rf G 0, .int x, .int y] 103 I R J Q := by
  obtain ⟨hRS, hc, hl, hb, hC, hW, hD, hI, hL⟩ := hX
  have hRK := hRS.K
  have hR3c : R 3 0 = some c := hRS 3 0 (by decide)
  have hR3l : R 3 1 = some l := hRS 3 1 (by decide)
  have hR32 : R 3 2 = some 16 := hRS 3 2 (by decide)
  have hR33 : R 3 3 = some 17 := hRS 3 3 (by decide)
  have h8 := hW.1
  have hg6 := hW.2.1
  have h6 := hW.2.2.1
  have hWD := hI.1
  have hFl := hI.1.1
  show V _ _ _ _ _ _ _ _ [(0, rf G 0), (1, .int x), (2, .int y)] [] _ _ _ _ _
  refine V_aload_n 1 0 rfl _ rfl rfl dX10_fleet_0 rfl ?_
  refine V_iload_n 2 1 rfl rfl dX10_fleet_1 rfl ?_
  refine V_aload_n 3 0 rfl _ rfl rfl dX10_fleet_2 rfl ?_
  refine V_getR 6 0 10 1 3 (hRS 0 1 (by decide)) flX10_19 rfl rfl rfl (by decide) dX10_fleet_3 rfl ?_
  refine V_getR 9 3 7 0 c hR3c flX10_85 rfl rfl rfl (by decide) dX10_fleet_6 rfl ?_
  refine V_getI 12 c 2 7 (nI (cG K)) hC.2.1 flX10_165 rfl (ly_c hc).1 rfl (by omega) dX10_fleet_9 rfl ?_
  refine V_callV (K' := 1) (S' := 6) 15 0 10 2 [.int x, .int (nI (cG K))] mkX10_needOneOf lkX10_187 (by decide) rfl rfl (by decide) rfl (Nat.le_of_ble_eq_true rfl) (Nat.le_of_ble_eq_true rfl) (Nat.le_of_ble_eq_true rfl) (Nat.le_of_ble_eq_true rfl) rfl rfl dX10_fleet_12 rfl (c_X10_needOneOf (c := cG K) (by omega) (fun i12 => ?_) (fun i12 => by rw [ckN_n (by omega) i12] at hq; exact hq _ rfl))
  refine Kq_v (k' := 1) (sl' := 6) rfl rfl ?_
  rw [ckN_y (by omega) i12] at hq
  obtain ⟨g, hg, rfl⟩ := i12
  refine V_aload_n 16 0 rfl _ rfl rfl dX10_fleet_15 rfl ?_
  refine V_iload_n 17 2 rfl rfl dX10_fleet_16 rfl ?_
  refine V_iconst 18 (0) rfl dX10_fleet_17 rfl ?_
  refine V_bipush 20 (99) rfl dX10_fleet_18 rfl ?_
  refine V_callV (K' := 1) (S' := 6) 23 0 10 3 [.int y, .int 0, .int 99] mkX10_needWithin lkX10_158 (by decide) rfl rfl (by decide) rfl (Nat.le_of_ble_eq_true rfl) (Nat.le_of_ble_eq_true rfl) (Nat.le_of_ble_eq_true rfl) (Nat.le_of_ble_eq_true rfl) rfl rfl dX10_fleet_20 rfl (c_X10_needWithin (fun a20 b20 => ?_) (fun a20 => by rw [ckW_n a20] at hq; exact hq _ rfl))
  refine Kq_v (k' := 2) (sl' := 12) rfl rfl ?_
  rw [ckW_y a20 b20] at hq
  obtain ⟨n, hn, rfl⟩ := in_nI (n := 99) (by decide) a20 b20
  refine V_aload_n 24 0 rfl _ rfl rfl dX10_fleet_23 rfl ?_
  refine V_getR 27 0 10 6 43 (hRS 0 6 (by decide)) flX10_50 rfl rfl rfl (by decide) dX10_fleet_24 rfl ?_
  refine V_aload_n 28 0 rfl _ rfl rfl dX10_fleet_27 rfl ?_
  refine V_getR 31 0 10 1 3 (hRS 0 1 (by decide)) flX10_19 rfl rfl rfl (by decide) dX10_fleet_28 rfl ?_
  refine V_aload_n 32 0 rfl _ rfl rfl dX10_fleet_31 rfl ?_
  refine V_getR 35 0 10 2 18 (hRS 0 2 (by decide)) flX10_26 rfl rfl rfl (by decide) dX10_fleet_32 rfl ?_
  refine V_iload_n 36 1 rfl rfl dX10_fleet_35 rfl ?_
  refine V_iload_n 37 2 rfl rfl dX10_fleet_36 rfl ?_
  refine V_callV (K' := 0) (S' := 0) 40 43 0 4 [rf G 3, rf G 18, .int (nI g), .int (nI n)] mkX0_fewestMen lkX10_309 (by decide) rfl rfl (by decide) rfl (Nat.le_of_ble_eq_true rfl) (Nat.le_of_ble_eq_true rfl) (Nat.le_of_ble_eq_true rfl) (Nat.le_of_ble_eq_true rfl) rfl rfl dX10_fleet_37 rfl (c_X0_fewestMen ⟨hRS, hc, hl, hb, hC, hW, hD, hI, hL⟩ hg hn (fun I1 hF1 => ?_))
  refine Kq_i (k' := 2) (sl' := 12) rfl rfl ?_
  rw [nI_clamp (show g < 2 ^ 31 by omega), nI_clamp (show n < 2 ^ 31 by omega)] at hq
  refine V_ret_i rfl rfl (Nat.le_of_ble_eq_true rfl) (fun h => absurd h (by decide)) (Nat.le_of_ble_eq_true rfl) (hq I1 hF1) dX10_fleet_40
set_option maxHeartbeats 8000000 in
theorem c_X11_fleet {G : Gx} {d : Nat} {I : FI} {R : FR} {J : FJ} {Q : Po} {K : CO} {f : DV → Int32} {D : DV} (hX : RM I R K f D) {x y : Int32}  (hq : HoM I R J Q 2 (ckN x (cG K) (ckW y 0 99 (.inl (flF K f D x.toNatClampNeg y.toNatClampNeg (2 ^ cM K)))))) : Cc G mX11_fleet (d + 60) 0 0 [rf G 69, .int x, .int y] 103 I R J Q := by
  obtain ⟨I0, hI0⟩ : ∃ I0, I0 = up2 I 69 0 0 := ⟨_, rfl⟩
  have hz := FrM.z hI0
  obtain ⟨hRM, hK, hW, hN, hI, hL, hfR⟩ := hX.fr hz
  have ht : I0 69 0 = 0 := hz.2.1
  have h8 := hW.1
  have hg6 := hW.2.1
  have h6 := hW.2.2.1
  have hWD := hI.1
  have hFl := hI.1.1
  have hB := hI.2.2.1
  have hSt := hI.2.1
  show V _ _ _ _ _ _ _ _ [(0, rf G 69), (1, .int x), (2, .int y)] [] _ _ _ _ _
  refine V_aload_n 1 0 rfl _ rfl rfl dX11_fleet_0 rfl ?_
  refine V_iconst 2 (0) rfl dX11_fleet_1 rfl ?_
  refine V_putI 5 69 11 0 flX11_3 rfl rfl rfl (by decide) rfl dX11_fleet_2 rfl ?_
  rw [← hI0]
  refine V_aload_n 6 0 rfl _ rfl rfl dX11_fleet_5 rfl ?_
  refine V_iload_n 7 1 rfl rfl dX11_fleet_6 rfl ?_
  refine V_iconst 8 (1) rfl dX11_fleet_7 rfl ?_
  refine V_callV (K' := 0) (S' := 0) 11 69 11 2 [.int x, .int 1] mkX11_isGround lkX11_401 (by decide) rfl rfl (by decide) rfl (Nat.le_of_ble_eq_true rfl) (Nat.le_of_ble_eq_true rfl) (Nat.le_of_ble_eq_true rfl) (Nat.le_of_ble_eq_true rfl) rfl rfl dX11_fleet_8 rfl (c_X11_isGround (c := cG K) (cd := 1) hRM (by omega) hK.2.1 (by decide) (by decide) ht (fun i8 => ?_) (fun i8 => ?_))
  · refine Kq_i (k' := 0) (sl' := 0) rfl rfl ?_
    rw [ckN_y (by omega) i8] at hq
    obtain ⟨g, hg, rfl⟩ := i8
    refine V_if_eq 30 14 rfl dX11_fleet_11 rfl (fun c11 => absurd c11 (by decide)) (fun c11 => ?_)
    refine V_aload_n 15 0 rfl _ rfl rfl dX11_fleet_14 rfl ?_
    refine V_iload_n 16 2 rfl rfl dX11_fleet_15 rfl ?_
    refine V_iconst 17 (0) rfl dX11_fleet_16 rfl ?_
    refine V_bipush 19 (99) rfl dX11_fleet_17 rfl ?_
    refine V_callS (K' := 0) (S' := 0) 22 3 [.int y, .int 0, .int 99] mkX11_within lkX11_383 rfl (Nat.le_of_ble_eq_true rfl) (Nat.le_of_ble_eq_true rfl) (Nat.le_of_ble_eq_true rfl) (Nat.le_of_ble_eq_true rfl) rfl rfl dX11_fleet_19 rfl (c_X11_within (fun a19 b19 => ?_) (fun a19 => ?_))
    · refine Kq_i (k' := 0) (sl' := 0) rfl rfl ?_
      rw [ckW_y a19 b19] at hq
      obtain ⟨n, hn, rfl⟩ := in_nI (n := 99) (by decide) a19 b19
      refine V_iconst 23 (2) rfl dX11_fleet_22 rfl ?_
      refine V_iconst 24 (1) rfl dX11_fleet_23 rfl ?_
      refine V_callV (K' := 0) (S' := 0) 27 69 11 3 [.int 1, .int 2, .int 1] mkX11_may lkX11_216 (by decide) rfl rfl (by decide) rfl (Nat.le_of_ble_eq_true rfl) (Nat.le_of_ble_eq_true rfl) (Nat.le_of_ble_eq_true rfl) (Nat.le_of_ble_eq_true rfl) rfl rfl dX11_fleet_24 rfl (c_X11_may (cd := 2) (kd := 1) hRM (by decide) (by decide) (by decide) ht (fun _ => ?_) (fun e => absurd e (by decide)))
      refine Kq_i (k' := 0) (sl' := 0) rfl rfl ?_
      refine V_if_ne 32 30 rfl dX11_fleet_27 rfl (fun c27 => ?_) (fun c27 => absurd c27 (by decide))
      refine V_iconst 33 (-1) rfl dX11_fleet_32 rfl ?_
      refine V_istore_n 34 [(3, .int (-1)), (0, rf G 69), (1, .int (nI g)), (2, .int (nI n))] (by decide) rfl rfl dX11_fleet_33 rfl ?_
      refine V_iconst 35 (0) rfl dX11_fleet_34 rfl ?_
      refine V_istore 37 [(4, .int 0), (3, .int (-1)), (0, rf G 69), (1, .int (nI g)), (2, .int (nI n))] (by decide) rfl dX11_fleet_35 rfl ?_
      rw [nI_clamp (show g < 2 ^ 31 by omega), nI_clamp (show n < 2 ^ 31 by omega)] at hq
      have a2 := pow6 h6
      have L : ∀ s, s ≤ 2 ^ cM K → ∀ I2, Fr4 I0 I2 → V G mX11_fleet (d + 60) 0 0 0 0 37 [(4, .int (nI s)), (3, .int (flF K f D g n s)), (0, rf G 69), (1, .int (nI g)), (2, .int (nI n))] [] 103 I2 R J Q := by
        refine loopd (2 ^ cM K) (fun I2 hF2 => ?_) (fun s hs ih I2 hF2 => ?_)
        · refine V_iload 39 0 rfl dX11_fleet_37 rfl ?_
          refine V_iconst 40 (1) rfl dX11_fleet_39 rfl ?_
          refine V_aload_n 41 2 rfl _ rfl rfl dX11_fleet_40 rfl ?_
          refine V_getI 44 69 11 23 (nI (cM K)) (hF2.K hK).2.2.1 flX11_181 rfl rfl rfl (by decide) dX11_fleet_41 rfl ?_
          refine V_ishl 45 dX11_fleet_44 rfl ?_
          refine V_rw (show _ = nI (2 ^ cM K) from shl2 (cM K) (by omega)) ?_
          refine V_icmp_ge 198 48 rfl dX11_fleet_45 rfl (fun c45 => ?_) (fun c45 => absurd (Int32.le_refl _) c45)
          refine V_iload_n 199 1 rfl rfl dX11_fleet_198 rfl ?_
          refine V_ret_i rfl rfl (Nat.le_of_ble_eq_true rfl) (fun h => absurd h (by decide)) (Nat.le_of_ble_eq_true rfl) (hq I2 (hz.go4 hF2)) dX11_fleet_199
        · have hs6 : s < 64 := by omega
          have LL : ∀ i, i ≤ cM K → ∀ I3 su iv, Fr4 I0 I3 → ((iv = 1 ∧ okB D s i = true ∧ su = tkS K f D g s i) ∨ (iv = 0 ∧ okB D s i = false)) → V G mX11_fleet (d + 60) 0 0 0 0 57 [(7, .int (nI i)), (5, .int su), (6, .int iv), (4, .int (nI s)), (3, .int (flF K f D g n s)), (0, rf G 69), (1, .int (nI g)), (2, .int (nI n))] [] 103 I3 R J Q := by
            refine loopd (cM K) (fun I3 su iv hF3 hv => ?_) (fun i hi ih2 I3 su iv hF3 hv => ?_)
            · rcases hv with ⟨rfl, ho, rfl⟩ | ⟨rfl, ho⟩
              · refine V_iload 59 0 rfl dX11_fleet_57 rfl ?_
                refine V_aload_n 60 5 rfl _ rfl rfl dX11_fleet_59 rfl ?_
                refine V_getI 63 69 11 23 (nI (cM K)) (hF3.K hK).2.2.1 flX11_181 rfl rfl rfl (by decide) dX11_fleet_60 rfl ?_
                refine V_icmp_ge 161 66 rfl dX11_fleet_63 rfl (fun c63 => ?_) (fun c63 => absurd (Int32.le_refl _) c63)
                refine V_iload 163 2 rfl dX11_fleet_161 rfl ?_
                refine V_if_eq 192 166 rfl dX11_fleet_163 rfl (fun c163 => absurd c163 (by decide)) (fun c163 => ?_)
                refine V_iload 168 1 rfl dX11_fleet_166 rfl ?_
                refine V_iload_n 169 7 rfl rfl dX11_fleet_168 rfl ?_
                refine V_icmp_lt 192 172 rfl dX11_fleet_169 rfl (fun c169 => ?_) (fun c169 => ?_)
                · refine V_iinc 195 3 rfl (nI (s + 1)) [(4, .int (nI (s + 1))), (7, .int (nI (cM K))), (5, .int (tkS K f D g s (cM K))), (6, .int 1), (3, .int (flF K f D g n s)), (0, rf G 69), (1, .int (nI g)), (2, .int (nI n))] (nI_1 _) (by decide) rfl dX11_fleet_192 rfl ?_
                  refine V_goto 37 rfl dX11_fleet_195 ?_
                  have eS : flF K f D g n (s + 1) = flF K f D g n s := by
                    rw [flF, if_neg]
                    intro q
                    first | exact Int32.not_lt.mpr q.2.1 c169 | exact q.2.2.elim c174 (fun r => Int32.not_lt.mpr c186 r)
                  rw [eS] at ih
                  exact V_lv [0, 4, 5, 6, 7] rfl (ih I3 hF3)
                · refine V_iload_n 173 4 rfl rfl dX11_fleet_172 rfl ?_
                  refine V_iconst 174 (-1) rfl dX11_fleet_173 rfl ?_
                  refine V_icmp_eq 189 177 rfl dX11_fleet_174 rfl (fun c174 => ?_) (fun c174 => ?_)
                  · refine V_iload 191 3 rfl dX11_fleet_189 rfl ?_
                    refine V_istore_n 192 [(3, .int (nI s)), (7, .int (nI (cM K))), (5, .int (tkS K f D g s (cM K))), (6, .int 1), (4, .int (nI s)), (0, rf G 69), (1, .int (nI g)), (2, .int (nI n))] (by decide) rfl rfl dX11_fleet_191 rfl ?_
                    refine V_iinc 195 4 rfl (nI (s + 1)) [(4, .int (nI (s + 1))), (3, .int (nI s)), (7, .int (nI (cM K))), (5, .int (tkS K f D g s (cM K))), (6, .int 1), (0, rf G 69), (1, .int (nI g)), (2, .int (nI n))] (nI_1 _) (by decide) rfl dX11_fleet_192 rfl ?_
                    refine V_goto 37 rfl dX11_fleet_195 ?_
                    have eS : flF K f D g n (s + 1) = nI s := by
                      rw [flF, if_pos ⟨ho, Int32.not_lt.mp c169, by first | exact Or.inl c174 | exact Or.inr (Int32.not_le.mp c186)⟩]
                    rw [eS] at ih
                    exact V_lv [0, 1, 5, 6, 7] rfl (ih I3 hF3)
                  · have eon : onF (flF K f D g n s) 8 = bcI (flF K f D g n s) := by
                      rcases flF_v (K := K) (f := f) (D := D) (g := g) (n := n) s with e | ⟨j, hj, e⟩
                      · exact absurd e c174
                      · rw [e]; exact on_64 j (by omega)
                    refine V_iload 179 3 rfl dX11_fleet_177 rfl ?_
                    refine V_callS (K' := 0) (S' := 0) 182 1 [.int (nI s)] mkX11_ones lkX11_354 rfl (Nat.le_of_ble_eq_true rfl) (Nat.le_of_ble_eq_true rfl) (Nat.le_of_ble_eq_true rfl) (Nat.le_of_ble_eq_true rfl) rfl rfl dX11_fleet_179 rfl (c_X11_ones ?_)
                    rw [on_64 s hs6]
                    refine Kq_i (k' := 0) (sl' := 0) rfl rfl ?_
                    refine V_iload_n 183 4 rfl rfl dX11_fleet_182 rfl ?_
                    refine V_callS (K' := 0) (S' := 0) 186 1 [.int (flF K f D g n s)] mkX11_ones lkX11_354 rfl (Nat.le_of_ble_eq_true rfl) (Nat.le_of_ble_eq_true rfl) (Nat.le_of_ble_eq_true rfl) (Nat.le_of_ble_eq_true rfl) rfl rfl dX11_fleet_183 rfl (c_X11_ones ?_)
                    rw [eon]
                    refine Kq_i (k' := 0) (sl' := 0) rfl rfl ?_
                    refine V_icmp_ge 192 189 rfl dX11_fleet_186 rfl (fun c186 => ?_) (fun c186 => ?_)
                    · refine V_iinc 195 3 rfl (nI (s + 1)) [(4, .int (nI (s + 1))), (7, .int (nI (cM K))), (5, .int (tkS K f D g s (cM K))), (6, .int 1), (3, .int (flF K f D g n s)), (0, rf G 69), (1, .int (nI g)), (2, .int (nI n))] (nI_1 _) (by decide) rfl dX11_fleet_192 rfl ?_
                      refine V_goto 37 rfl dX11_fleet_195 ?_
                      have eS : flF K f D g n (s + 1) = flF K f D g n s := by
                        rw [flF, if_neg]
                        intro q
                        first | exact Int32.not_lt.mpr q.2.1 c169 | exact q.2.2.elim c174 (fun r => Int32.not_lt.mpr c186 r)
                      rw [eS] at ih
                      exact V_lv [0, 4, 5, 6, 7] rfl (ih I3 hF3)
                    · refine V_iload 191 3 rfl dX11_fleet_189 rfl ?_
                      refine V_istore_n 192 [(3, .int (nI s)), (7, .int (nI (cM K))), (5, .int (tkS K f D g s (cM K))), (6, .int 1), (4, .int (nI s)), (0, rf G 69), (1, .int (nI g)), (2, .int (nI n))] (by decide) rfl rfl dX11_fleet_191 rfl ?_
                      refine V_iinc 195 4 rfl (nI (s + 1)) [(4, .int (nI (s + 1))), (3, .int (nI s)), (7, .int (nI (cM K))), (5, .int (tkS K f D g s (cM K))), (6, .int 1), (0, rf G 69), (1, .int (nI g)), (2, .int (nI n))] (nI_1 _) (by decide) rfl dX11_fleet_192 rfl ?_
                      refine V_goto 37 rfl dX11_fleet_195 ?_
                      have eS : flF K f D g n (s + 1) = nI s := by
                        rw [flF, if_pos ⟨ho, Int32.not_lt.mp c169, by first | exact Or.inl c174 | exact Or.inr (Int32.not_le.mp c186)⟩]
                      rw [eS] at ih
                      exact V_lv [0, 1, 5, 6, 7] rfl (ih I3 hF3)
              · refine V_iload 59 0 rfl dX11_fleet_57 rfl ?_
                refine V_aload_n 60 5 rfl _ rfl rfl dX11_fleet_59 rfl ?_
                refine V_getI 63 69 11 23 (nI (cM K)) (hF3.K hK).2.2.1 flX11_181 rfl rfl rfl (by decide) dX11_fleet_60 rfl ?_
                refine V_icmp_ge 161 66 rfl dX11_fleet_63 rfl (fun c63 => ?_) (fun c63 => absurd (Int32.le_refl _) c63)
                refine V_iload 163 2 rfl dX11_fleet_161 rfl ?_
                refine V_if_eq 192 166 rfl dX11_fleet_163 rfl (fun c163 => ?_) (fun c163 => absurd c163 (by decide))
                refine V_iinc 195 3 rfl (nI (s + 1)) [(4, .int (nI (s + 1))), (7, .int (nI (cM K))), (5, .int su), (6, .int 0), (3, .int (flF K f D g n s)), (0, rf G 69), (1, .int (nI g)), (2, .int (nI n))] (nI_1 _) (by decide) rfl dX11_fleet_192 rfl ?_
                refine V_goto 37 rfl dX11_fleet_195 ?_
                have eS : flF K f D g n (s + 1) = flF K f D g n s := by
                  rw [flF, if_neg (fun q => by rw [ho] at q; exact absurd q.1 (by decide))]
                rw [eS] at ih
                exact V_lv [0, 4, 5, 6, 7] rfl (ih I3 hF3)
            · by_cases cb : (nI s >>> (nI i &&& 31)) &&& 1 = 0
              · refine V_iload 59 0 rfl dX11_fleet_57 rfl ?_
                refine V_aload_n 60 5 rfl _ rfl rfl dX11_fleet_59 rfl ?_
                refine V_getI 63 69 11 23 (nI (cM K)) (hF3.K hK).2.2.1 flX11_181 rfl rfl rfl (by decide) dX11_fleet_60 rfl ?_
                refine V_icmp_ge 161 66 rfl dX11_fleet_63 rfl (fun c63 => absurd c63 (nI_ge hi (by omega))) (fun c63 => ?_)
                refine V_iload 68 3 rfl dX11_fleet_66 rfl ?_
                refine V_iload 70 0 rfl dX11_fleet_68 rfl ?_
                refine V_ishr 71 dX11_fleet_70 rfl ?_
                refine V_iconst 72 (1) rfl dX11_fleet_71 rfl ?_
                refine V_iand 73 dX11_fleet_72 rfl ?_
                refine V_if_ne 79 76 rfl dX11_fleet_73 rfl (fun c73 => absurd cb c73) (fun c73 => ?_)
                refine V_goto 155 rfl dX11_fleet_76 ?_
                refine V_iinc 158 0 rfl (nI (i + 1)) [(7, .int (nI (i + 1))), (5, .int su), (6, .int iv), (4, .int (nI s)), (3, .int (flF K f D g n s)), (0, rf G 69), (1, .int (nI g)), (2, .int (nI n))] (nI_1 _) (by decide) rfl dX11_fleet_155 rfl ?_
                refine V_goto 57 rfl dX11_fleet_158 ?_
                refine V_lv [0, 1, 2, 3, 4, 5, 6, 7] rfl (ih2 I3 su iv hF3 ?_)
                rw [okB, tkS, if_neg (show ¬ (nI s >>> (nI i &&& 31)) &&& 1 = 1 from by rw [cb]; decide), Int32.add_zero, decide_eq_true cb, Bool.true_or, Bool.and_true]
                exact hv
              · have cb1 := (and01 (nI s >>> (nI i &&& 31))).resolve_left cb
                rcases hv with ⟨rfl, ho, rfl⟩ | ⟨rfl, ho⟩
                · rcases hWD.2.1 i (by omega) with e | ⟨h, hh, e⟩
                  · refine V_iload 59 0 rfl dX11_fleet_57 rfl ?_
                    refine V_aload_n 60 5 rfl _ rfl rfl dX11_fleet_59 rfl ?_
                    refine V_getI 63 69 11 23 (nI (cM K)) (hF3.K hK).2.2.1 flX11_181 rfl rfl rfl (by decide) dX11_fleet_60 rfl ?_
                    refine V_icmp_ge 161 66 rfl dX11_fleet_63 rfl (fun c63 => absurd c63 (nI_ge hi (by omega))) (fun c63 => ?_)
                    refine V_iload 68 3 rfl dX11_fleet_66 rfl ?_
                    refine V_iload 70 0 rfl dX11_fleet_68 rfl ?_
                    refine V_ishr 71 dX11_fleet_70 rfl ?_
                    refine V_iconst 72 (1) rfl dX11_fleet_71 rfl ?_
                    refine V_iand 73 dX11_fleet_72 rfl ?_
                    refine V_if_ne 79 76 rfl dX11_fleet_73 rfl (fun c73 => ?_) (fun c73 => absurd c73 cb)
                    refine V_iload 81 2 rfl dX11_fleet_79 rfl ?_
                    refine V_if_eq 115 84 rfl dX11_fleet_81 rfl (fun c81 => absurd c81 (by decide)) (fun c81 => ?_)
                    refine V_aload_n 85 5 rfl _ rfl rfl dX11_fleet_84 rfl ?_
                    refine V_getR 88 69 11 40 88 (hRM 40) flX11_71 rfl rfl rfl (by decide) dX11_fleet_85 rfl ?_
                    refine V_bipush 90 (30) rfl dX11_fleet_88 rfl ?_
                    refine V_iload 92 0 rfl dX11_fleet_90 rfl ?_
                    refine V_iadd 93 dX11_fleet_92 rfl ?_
                    refine V_rw (nI_add 30 i) ?_
                    refine V_ialdN 94 88 51 (30 + i) (D (30 + i)) ((hF3.N hN) (30 + i) (by omega)) (by omega) (by decide) rfl (by decide) dX11_fleet_93 rfl ?_
                    refine V_iconst 95 (1) rfl dX11_fleet_94 rfl ?_
                    refine V_icmp_ne 115 98 rfl dX11_fleet_95 rfl (fun c95 => ?_) (fun c95 => ?_)
                    · refine V_iconst 116 (0) rfl dX11_fleet_115 rfl ?_
                      refine V_istore 118 [(6, .int 0), (7, .int (nI i)), (5, .int (tkS K f D g s i)), (4, .int (nI s)), (3, .int (flF K f D g n s)), (0, rf G 69), (1, .int (nI g)), (2, .int (nI n))] (by decide) rfl dX11_fleet_116 rfl ?_
                      refine V_iload 120 2 rfl dX11_fleet_118 rfl ?_
                      refine V_iload 122 0 rfl dX11_fleet_120 rfl ?_
                      refine V_if_eq 151 125 rfl dX11_fleet_122 rfl (fun c122 => ?_) (fun c122 => absurd c122 (by decide))
                      refine V_iconst 152 (0) rfl dX11_fleet_151 rfl ?_
                      refine V_iadd 153 dX11_fleet_152 rfl ?_
                      refine V_topi (fun x1 ex1 => ?_)
                      refine V_istore 155 [(5, .int x1), (6, .int 0), (7, .int (nI i)), (4, .int (nI s)), (3, .int (flF K f D g n s)), (0, rf G 69), (1, .int (nI g)), (2, .int (nI n))] (by decide) rfl dX11_fleet_153 rfl ?_
                      refine V_iinc 158 2 rfl (nI (i + 1)) [(7, .int (nI (i + 1))), (5, .int x1), (6, .int 0), (4, .int (nI s)), (3, .int (flF K f D g n s)), (0, rf G 69), (1, .int (nI g)), (2, .int (nI n))] (nI_1 _) (by decide) rfl dX11_fleet_155 rfl ?_
                      refine V_goto 57 rfl dX11_fleet_158 ?_
                      refine V_lv [0, 1, 2, 3, 4, 5, 6, 7] rfl (ih2 I3 _ 0 hF3 (Or.inr ⟨rfl, ?_⟩))
                      rw [okB, decide_eq_false cb, decide_eq_false (p := ¬ D i = -1) (fun q => q e), Bool.and_false, Bool.or_false, Bool.and_false]
                    · refine V_aload_n 99 5 rfl _ rfl rfl dX11_fleet_98 rfl ?_
                      refine V_getR 102 69 11 40 88 (hRM 40) flX11_71 rfl rfl rfl (by decide) dX11_fleet_99 rfl ?_
                      refine V_iconst 103 (0) rfl dX11_fleet_102 rfl ?_
                      refine V_iload 105 0 rfl dX11_fleet_103 rfl ?_
                      refine V_iadd 106 dX11_fleet_105 rfl ?_
                      refine V_rw (nI_z _) ?_
                      refine V_ialdN 107 88 51 i (-1) (((hF3.N hN) i (by omega)).trans e) (by omega) (by decide) rfl (by decide) dX11_fleet_106 rfl ?_
                      refine V_iconst 108 (-1) rfl dX11_fleet_107 rfl ?_
                      refine V_icmp_eq 115 111 rfl dX11_fleet_108 rfl (fun c108 => ?_) (fun c108 => absurd rfl c108)
                      refine V_iconst 116 (0) rfl dX11_fleet_115 rfl ?_
                      refine V_istore 118 [(6, .int 0), (7, .int (nI i)), (5, .int (tkS K f D g s i)), (4, .int (nI s)), (3, .int (flF K f D g n s)), (0, rf G 69), (1, .int (nI g)), (2, .int (nI n))] (by decide) rfl dX11_fleet_116 rfl ?_
                      refine V_iload 120 2 rfl dX11_fleet_118 rfl ?_
                      refine V_iload 122 0 rfl dX11_fleet_120 rfl ?_
                      refine V_if_eq 151 125 rfl dX11_fleet_122 rfl (fun c122 => ?_) (fun c122 => absurd c122 (by decide))
                      refine V_iconst 152 (0) rfl dX11_fleet_151 rfl ?_
                      refine V_iadd 153 dX11_fleet_152 rfl ?_
                      refine V_topi (fun x2 ex2 => ?_)
                      refine V_istore 155 [(5, .int x2), (6, .int 0), (7, .int (nI i)), (4, .int (nI s)), (3, .int (flF K f D g n s)), (0, rf G 69), (1, .int (nI g)), (2, .int (nI n))] (by decide) rfl dX11_fleet_153 rfl ?_
                      refine V_iinc 158 2 rfl (nI (i + 1)) [(7, .int (nI (i + 1))), (5, .int x2), (6, .int 0), (4, .int (nI s)), (3, .int (flF K f D g n s)), (0, rf G 69), (1, .int (nI g)), (2, .int (nI n))] (nI_1 _) (by decide) rfl dX11_fleet_155 rfl ?_
                      refine V_goto 57 rfl dX11_fleet_158 ?_
                      refine V_lv [0, 1, 2, 3, 4, 5, 6, 7] rfl (ih2 I3 _ 0 hF3 (Or.inr ⟨rfl, ?_⟩))
                      rw [okB, decide_eq_false cb, decide_eq_false (p := ¬ D i = -1) (fun q => q e), Bool.and_false, Bool.or_false, Bool.and_false]
                  · refine V_iload 59 0 rfl dX11_fleet_57 rfl ?_
                    refine V_aload_n 60 5 rfl _ rfl rfl dX11_fleet_59 rfl ?_
                    refine V_getI 63 69 11 23 (nI (cM K)) (hF3.K hK).2.2.1 flX11_181 rfl rfl rfl (by decide) dX11_fleet_60 rfl ?_
                    refine V_icmp_ge 161 66 rfl dX11_fleet_63 rfl (fun c63 => absurd c63 (nI_ge hi (by omega))) (fun c63 => ?_)
                    refine V_iload 68 3 rfl dX11_fleet_66 rfl ?_
                    refine V_iload 70 0 rfl dX11_fleet_68 rfl ?_
                    refine V_ishr 71 dX11_fleet_70 rfl ?_
                    refine V_iconst 72 (1) rfl dX11_fleet_71 rfl ?_
                    refine V_iand 73 dX11_fleet_72 rfl ?_
                    refine V_if_ne 79 76 rfl dX11_fleet_73 rfl (fun c73 => ?_) (fun c73 => absurd c73 cb)
                    refine V_iload 81 2 rfl dX11_fleet_79 rfl ?_
                    refine V_if_eq 115 84 rfl dX11_fleet_81 rfl (fun c81 => absurd c81 (by decide)) (fun c81 => ?_)
                    refine V_aload_n 85 5 rfl _ rfl rfl dX11_fleet_84 rfl ?_
                    refine V_getR 88 69 11 40 88 (hRM 40) flX11_71 rfl rfl rfl (by decide) dX11_fleet_85 rfl ?_
                    refine V_bipush 90 (30) rfl dX11_fleet_88 rfl ?_
                    refine V_iload 92 0 rfl dX11_fleet_90 rfl ?_
                    refine V_iadd 93 dX11_fleet_92 rfl ?_
                    refine V_rw (nI_add 30 i) ?_
                    refine V_ialdN 94 88 51 (30 + i) (D (30 + i)) ((hF3.N hN) (30 + i) (by omega)) (by omega) (by decide) rfl (by decide) dX11_fleet_93 rfl ?_
                    refine V_iconst 95 (1) rfl dX11_fleet_94 rfl ?_
                    refine V_icmp_ne 115 98 rfl dX11_fleet_95 rfl (fun c95 => ?_) (fun c95 => ?_)
                    · refine V_iconst 116 (0) rfl dX11_fleet_115 rfl ?_
                      refine V_istore 118 [(6, .int 0), (7, .int (nI i)), (5, .int (tkS K f D g s i)), (4, .int (nI s)), (3, .int (flF K f D g n s)), (0, rf G 69), (1, .int (nI g)), (2, .int (nI n))] (by decide) rfl dX11_fleet_116 rfl ?_
                      refine V_iload 120 2 rfl dX11_fleet_118 rfl ?_
                      refine V_iload 122 0 rfl dX11_fleet_120 rfl ?_
                      refine V_if_eq 151 125 rfl dX11_fleet_122 rfl (fun c122 => ?_) (fun c122 => absurd c122 (by decide))
                      refine V_iconst 152 (0) rfl dX11_fleet_151 rfl ?_
                      refine V_iadd 153 dX11_fleet_152 rfl ?_
                      refine V_topi (fun x1 ex1 => ?_)
                      refine V_istore 155 [(5, .int x1), (6, .int 0), (7, .int (nI i)), (4, .int (nI s)), (3, .int (flF K f D g n s)), (0, rf G 69), (1, .int (nI g)), (2, .int (nI n))] (by decide) rfl dX11_fleet_153 rfl ?_
                      refine V_iinc 158 2 rfl (nI (i + 1)) [(7, .int (nI (i + 1))), (5, .int x1), (6, .int 0), (4, .int (nI s)), (3, .int (flF K f D g n s)), (0, rf G 69), (1, .int (nI g)), (2, .int (nI n))] (nI_1 _) (by decide) rfl dX11_fleet_155 rfl ?_
                      refine V_goto 57 rfl dX11_fleet_158 ?_
                      refine V_lv [0, 1, 2, 3, 4, 5, 6, 7] rfl (ih2 I3 _ 0 hF3 (Or.inr ⟨rfl, ?_⟩))
                      rw [okB, decide_eq_false cb, decide_eq_false c95, Bool.false_and, Bool.or_false, Bool.and_false]
                    · refine V_aload_n 99 5 rfl _ rfl rfl dX11_fleet_98 rfl ?_
                      refine V_getR 102 69 11 40 88 (hRM 40) flX11_71 rfl rfl rfl (by decide) dX11_fleet_99 rfl ?_
                      refine V_iconst 103 (0) rfl dX11_fleet_102 rfl ?_
                      refine V_iload 105 0 rfl dX11_fleet_103 rfl ?_
                      refine V_iadd 106 dX11_fleet_105 rfl ?_
                      refine V_rw (nI_z _) ?_
                      refine V_ialdN 107 88 51 i (nI h) (((hF3.N hN) i (by omega)).trans e) (by omega) (by decide) rfl (by decide) dX11_fleet_106 rfl ?_
                      refine V_iconst 108 (-1) rfl dX11_fleet_107 rfl ?_
                      refine V_icmp_eq 115 111 rfl dX11_fleet_108 rfl (fun c108 => absurd c108 (nI_ne (by omega))) (fun c108 => ?_)
                      refine V_iconst 112 (1) rfl dX11_fleet_111 rfl ?_
                      refine V_goto 116 rfl dX11_fleet_112 ?_
                      refine V_istore 118 [(6, .int 1), (7, .int (nI i)), (5, .int (tkS K f D g s i)), (4, .int (nI s)), (3, .int (flF K f D g n s)), (0, rf G 69), (1, .int (nI g)), (2, .int (nI n))] (by decide) rfl dX11_fleet_116 rfl ?_
                      refine V_iload 120 2 rfl dX11_fleet_118 rfl ?_
                      refine V_iload 122 0 rfl dX11_fleet_120 rfl ?_
                      refine V_if_eq 151 125 rfl dX11_fleet_122 rfl (fun c122 => absurd c122 (by decide)) (fun c122 => ?_)
                      refine V_bipush 127 (9) rfl dX11_fleet_125 rfl ?_
                      refine V_aload_n 128 5 rfl _ rfl rfl dX11_fleet_127 rfl ?_
                      refine V_iload 130 1 rfl dX11_fleet_128 rfl ?_
                      refine V_aload_n 131 5 rfl _ rfl rfl dX11_fleet_130 rfl ?_
                      refine V_getR 134 69 11 40 88 (hRM 40) flX11_71 rfl rfl rfl (by decide) dX11_fleet_131 rfl ?_
                      refine V_iconst 135 (0) rfl dX11_fleet_134 rfl ?_
                      refine V_iload 137 1 rfl dX11_fleet_135 rfl ?_
                      refine V_iadd 138 dX11_fleet_137 rfl ?_
                      refine V_rw (nI_z _) ?_
                      refine V_ialdN 139 88 51 i (nI h) (((hF3.N hN) i (by omega)).trans e) (by omega) (by decide) rfl (by decide) dX11_fleet_138 rfl ?_
                      refine V_iload_n 140 6 rfl rfl dX11_fleet_139 rfl ?_
                      refine V_iconst 141 (1) rfl dX11_fleet_140 rfl ?_
                      refine V_callV (K' := 0) (S' := 0) 144 69 11 4 [.int (nI i), .int (nI h), .int (nI g), .int 1] mkX11_hurtBy lkX11_411 (by decide) rfl rfl (by decide) rfl (Nat.le_of_ble_eq_true rfl) (Nat.le_of_ble_eq_true rfl) (Nat.le_of_ble_eq_true rfl) (Nat.le_of_ble_eq_true rfl) rfl rfl dX11_fleet_141 rfl (c_X11_hurtBy (n := 1) hRM (hF3.K hK) hW (hF3.N hN) (hF3.L hL) hi hh hg (by decide) (fun I4 hF4 => ?_))
                      refine Kq_i (k' := 0) (sl' := 0) rfl rfl ?_
                      refine V_bipush 146 (10) rfl dX11_fleet_144 rfl ?_
                      refine V_idiv 147 (by decide) dX11_fleet_146 rfl ?_
                      refine V_isub 148 dX11_fleet_147 rfl ?_
                      refine V_goto 152 rfl dX11_fleet_148 ?_
                      refine V_iadd 153 dX11_fleet_152 rfl ?_
                      refine V_topi (fun x2 ex2 => ?_)
                      refine V_istore 155 [(5, .int x2), (6, .int 1), (7, .int (nI i)), (4, .int (nI s)), (3, .int (flF K f D g n s)), (0, rf G 69), (1, .int (nI g)), (2, .int (nI n))] (by decide) rfl dX11_fleet_153 rfl ?_
                      refine V_iinc 158 2 rfl (nI (i + 1)) [(7, .int (nI (i + 1))), (5, .int x2), (6, .int 1), (4, .int (nI s)), (3, .int (flF K f D g n s)), (0, rf G 69), (1, .int (nI g)), (2, .int (nI n))] (nI_1 _) (by decide) rfl dX11_fleet_155 rfl ?_
                      refine V_goto 57 rfl dX11_fleet_158 ?_
                      refine V_lv [0, 1, 2, 3, 4, 5, 6, 7] rfl (ih2 I4 _ 1 (hF3.tr hF4) (Or.inl ⟨rfl, ?_, ?_⟩))
                      · rw [okB, ho, decide_eq_true c95, decide_eq_true (show ¬ D i = -1 from by rw [e]; exact nI_ne (by omega)), Bool.and_self, Bool.or_true, Bool.and_self]
                      · rw [tkS, if_pos cb1]
                        unfold tkV; rw [e, nOf_n (by omega)]
                        rw [ex2, show alT K f D i h g 1 = alS K f D i h g 0 from Int32.zero_add _]
                        exact congrArg _ (if_pos c95).symm
                · refine V_iload 59 0 rfl dX11_fleet_57 rfl ?_
                  refine V_aload_n 60 5 rfl _ rfl rfl dX11_fleet_59 rfl ?_
                  refine V_getI 63 69 11 23 (nI (cM K)) (hF3.K hK).2.2.1 flX11_181 rfl rfl rfl (by decide) dX11_fleet_60 rfl ?_
                  refine V_icmp_ge 161 66 rfl dX11_fleet_63 rfl (fun c63 => absurd c63 (nI_ge hi (by omega))) (fun c63 => ?_)
                  refine V_iload 68 3 rfl dX11_fleet_66 rfl ?_
                  refine V_iload 70 0 rfl dX11_fleet_68 rfl ?_
                  refine V_ishr 71 dX11_fleet_70 rfl ?_
                  refine V_iconst 72 (1) rfl dX11_fleet_71 rfl ?_
                  refine V_iand 73 dX11_fleet_72 rfl ?_
                  refine V_if_ne 79 76 rfl dX11_fleet_73 rfl (fun c73 => ?_) (fun c73 => absurd c73 cb)
                  refine V_iload 81 2 rfl dX11_fleet_79 rfl ?_
                  refine V_if_eq 115 84 rfl dX11_fleet_81 rfl (fun c81 => ?_) (fun c81 => absurd c81 (by decide))
                  refine V_iconst 116 (0) rfl dX11_fleet_115 rfl ?_
                  refine V_istore 118 [(6, .int 0), (7, .int (nI i)), (5, .int su), (4, .int (nI s)), (3, .int (flF K f D g n s)), (0, rf G 69), (1, .int (nI g)), (2, .int (nI n))] (by decide) rfl dX11_fleet_116 rfl ?_
                  refine V_iload 120 2 rfl dX11_fleet_118 rfl ?_
                  refine V_iload 122 0 rfl dX11_fleet_120 rfl ?_
                  refine V_if_eq 151 125 rfl dX11_fleet_122 rfl (fun c122 => ?_) (fun c122 => absurd c122 (by decide))
                  refine V_iconst 152 (0) rfl dX11_fleet_151 rfl ?_
                  refine V_iadd 153 dX11_fleet_152 rfl ?_
                  refine V_topi (fun x1 ex1 => ?_)
                  refine V_istore 155 [(5, .int x1), (6, .int 0), (7, .int (nI i)), (4, .int (nI s)), (3, .int (flF K f D g n s)), (0, rf G 69), (1, .int (nI g)), (2, .int (nI n))] (by decide) rfl dX11_fleet_153 rfl ?_
                  refine V_iinc 158 2 rfl (nI (i + 1)) [(7, .int (nI (i + 1))), (5, .int x1), (6, .int 0), (4, .int (nI s)), (3, .int (flF K f D g n s)), (0, rf G 69), (1, .int (nI g)), (2, .int (nI n))] (nI_1 _) (by decide) rfl dX11_fleet_155 rfl ?_
                  refine V_goto 57 rfl dX11_fleet_158 ?_
                  refine V_lv [0, 1, 2, 3, 4, 5, 6, 7] rfl (ih2 I3 _ 0 hF3 (Or.inr ⟨rfl, ?_⟩))
                  rw [okB, ho, Bool.false_and]
          refine V_iload 39 0 rfl dX11_fleet_37 rfl ?_
          refine V_iconst 40 (1) rfl dX11_fleet_39 rfl ?_
          refine V_aload_n 41 2 rfl _ rfl rfl dX11_fleet_40 rfl ?_
          refine V_getI 44 69 11 23 (nI (cM K)) (hF2.K hK).2.2.1 flX11_181 rfl rfl rfl (by decide) dX11_fleet_41 rfl ?_
          refine V_ishl 45 dX11_fleet_44 rfl ?_
          refine V_rw (show _ = nI (2 ^ cM K) from shl2 (cM K) (by omega)) ?_
          refine V_icmp_ge 198 48 rfl dX11_fleet_45 rfl (fun c45 => absurd c45 (nI_ge hs (by omega))) (fun c45 => ?_)
          refine V_iconst 49 (0) rfl dX11_fleet_48 rfl ?_
          refine V_istore 51 [(5, .int 0), (4, .int (nI s)), (3, .int (flF K f D g n s)), (0, rf G 69), (1, .int (nI g)), (2, .int (nI n))] (by decide) rfl dX11_fleet_49 rfl ?_
          refine V_iconst 52 (1) rfl dX11_fleet_51 rfl ?_
          refine V_istore 54 [(6, .int 1), (5, .int 0), (4, .int (nI s)), (3, .int (flF K f D g n s)), (0, rf G 69), (1, .int (nI g)), (2, .int (nI n))] (by decide) rfl dX11_fleet_52 rfl ?_
          refine V_iconst 55 (0) rfl dX11_fleet_54 rfl ?_
          refine V_istore 57 [(7, .int 0), (6, .int 1), (5, .int 0), (4, .int (nI s)), (3, .int (flF K f D g n s)), (0, rf G 69), (1, .int (nI g)), (2, .int (nI n))] (by decide) rfl dX11_fleet_55 rfl ?_
          exact V_lv [0, 2, 1, 3, 4, 5, 6, 7] rfl (LL 0 (Nat.zero_le _) I2 0 1 hF2 (Or.inl ⟨rfl, rfl, rfl⟩))
      exact V_lv [0, 1, 2, 3, 4] rfl (L 0 (Nat.zero_le _) I0 Fr4.rf)
    · refine Kq_i (k' := 0) (sl' := 0) rfl rfl ?_
      rw [ckW_n a19] at hq
      refine V_iconst 23 (2) rfl dX11_fleet_22 rfl ?_
      refine V_iconst 24 (1) rfl dX11_fleet_23 rfl ?_
      refine V_callV (K' := 0) (S' := 0) 27 69 11 3 [.int 0, .int 2, .int 1] mkX11_may lkX11_216 (by decide) rfl rfl (by decide) rfl (Nat.le_of_ble_eq_true rfl) (Nat.le_of_ble_eq_true rfl) (Nat.le_of_ble_eq_true rfl) (Nat.le_of_ble_eq_true rfl) rfl rfl dX11_fleet_24 rfl (c_X11_may (cd := 2) (kd := 1) hRM (by decide) (by decide) (by decide) ht (fun e => absurd rfl e) (fun _ => ?_))
      refine Kq_i (k' := 0) (sl' := 0) rfl rfl ?_
      refine V_if_ne 32 30 rfl dX11_fleet_27 rfl (fun c27 => absurd c27 (by decide)) (fun c27 => ?_)
      refine V_iconst 31 (0) rfl dX11_fleet_30 rfl ?_
      refine V_ret_i rfl rfl (Nat.le_of_ble_eq_true rfl) (fun h => absurd h (by decide)) (Nat.le_of_ble_eq_true rfl) (hq.x hI0 rfl) dX11_fleet_31
  · refine Kq_i (k' := 0) (sl' := 0) rfl rfl ?_
    rw [ckN_n (by omega) i8] at hq
    refine V_if_eq 30 14 rfl dX11_fleet_11 rfl (fun c11 => ?_) (fun c11 => absurd c11 (by decide))
    refine V_iconst 31 (0) rfl dX11_fleet_30 rfl ?_
    refine V_ret_i rfl rfl (Nat.le_of_ble_eq_true rfl) (fun h => absurd h (by decide)) (Nat.le_of_ble_eq_true rfl) (hq.x hI0 rfl) dX11_fleet_31
