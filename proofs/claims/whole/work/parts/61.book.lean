/-! ===== the BOOK; fits, look ===== -/
def BookC (I : FI) (b nb : Nat) (bk : Nat → Option Nat) : Prop := nb ≤ 8 ∧ I b 2 = nI nb ∧ ∃ hr sr : Nat → Nat, (∀ i, i < nb → I (b + 1) i = nI (hr i) ∧ hr i < 24 ∧ I (b + 2) i = nI (sr i) ∧ sr i ≤ 99 ∧ bk (hr i) = some (sr i)) ∧ ∀ h v, bk h = some v → ∃ i, i < nb ∧ hr i = h
def BookM (I : FI) (nb : Nat) (bk : Nat → Option Nat) : Prop := I 69 46 = nI nb ∧ ∀ h, h < 24 → I 93 h = oI (bk h)
theorem BookC.fr {I I' : FI} {b nb : Nat} {bk : Nat → Option Nat} (h : BookC I b nb bk) (hf : ∀ a, b ≤ a → a ≤ b + 2 → I' a = I a) : BookC I' b nb bk := by
  unfold BookC
  rw [hf b (Nat.le_refl _) (by omega), hf (b + 1) (by omega) (by omega), hf (b + 2) (by omega) (by omega)]
  exact h
theorem BookC.q {I I' : FI} {b nb : Nat} {bk : Nat → Option Nat} (h : BookC I b nb bk) (hb : b = 63 ∨ b = 66) (hf : FrQ I I') : BookC I' b nb bk := h.fr (fun a q1 q2 => hf a (by omega) (by omega) (by omega) (by omega))
theorem BookC.v {I : FI} {b nb : Nat} {bk : Nat → Option Nat} (hB : BookC I b nb bk) {k v : Nat} (e : bk k = some v) : k < 24 ∧ v ≤ 99 := by
  obtain ⟨-, -, hr, sr, h1, h2⟩ := hB
  obtain ⟨i, hi, rfl⟩ := h2 k v e
  obtain ⟨-, a2, -, a4, a5⟩ := h1 i hi
  rw [a5] at e
  cases e
  exact ⟨a2, a4⟩
def fiB (S : Nat → Int32) (bk : Nat → Option Nat) : Nat → Bool
  | 0 => true
  | k + 1 => fiB S bk k && (match bk k with
    | none => true
    | some v => decide (S k = nI v))
theorem fiB_iff {S : Nat → Int32} {bk : Nat → Option Nat} : ∀ n, fiB S bk n = true ↔ ∀ k, k < n → ∀ v, bk k = some v → S k = nI v := by
  intro n
  induction n with
  | zero => exact ⟨fun _ k hk => absurd hk (Nat.not_lt_zero _), fun _ => rfl⟩
  | succ n ih =>
    rw [fiB, Bool.and_eq_true, ih]
    constructor
    · intro h k hk v e
      by_cases c : k = n
      · subst c
        have h2 := h.2
        rw [e] at h2
        exact of_decide_eq_true h2
      · exact h.1 k (by omega) v e
    · intro h
      refine ⟨fun k hk => h k (by omega), ?_⟩
      cases e : bk n with
      | none => rfl
      | some v => exact decide_eq_true (h n (by omega) v e)
def fitT (K : CO) (f : DV → Int32) (D : DV) (bk : Nat → Option Nat) (m t : Nat) : Bool := fiB (alS K f D m (t / cG K) (t % cG K)) bk 24
def cnT (K : CO) (f : DV → Int32) (D : DV) (bk : Nat → Option Nat) (m : Nat) : Nat → Nat
  | 0 => 0
  | t + 1 => cnT K f D bk m t + (if fitT K f D bk m t = true then 1 else 0)
def fsT (K : CO) (f : DV → Int32) (D : DV) (bk : Nat → Option Nat) (m : Nat) : Nat → Int32
  | 0 => -1
  | t + 1 => if fitT K f D bk m t = true ∧ cnT K f D bk m t = 0 then nI (10 * (t / cG K) + t % cG K) else fsT K f D bk m t
theorem cnT_le {K : CO} {f : DV → Int32} {D : DV} {bk : Nat → Option Nat} {m : Nat} : ∀ t, cnT K f D bk m t ≤ t := by
  intro t
  induction t with
  | zero => exact Nat.le_refl _
  | succ t ih => rw [cnT]; split <;> omega
theorem cnT_mono {K : CO} {f : DV → Int32} {D : DV} {bk : Nat → Option Nat} {m : Nat} : ∀ k t, cnT K f D bk m t ≤ cnT K f D bk m (t + k) := by
  intro k
  induction k with
  | zero => intro t; exact Nat.le_refl _
  | succ k ih =>
    intro t
    have := ih t
    show cnT K f D bk m t ≤ cnT K f D bk m (t + k) + _
    omega
theorem cnT_at {K : CO} {f : DV → Int32} {D : DV} {bk : Nat → Option Nat} {m j : Nat} : ∀ N, j < cnT K f D bk m N → ∃ t, t < N ∧ fitT K f D bk m t = true ∧ cnT K f D bk m t = j := by
  intro N
  induction N with
  | zero => intro h; exact absurd h (Nat.not_lt_zero _)
  | succ N ih =>
    intro h
    rw [cnT] at h
    by_cases c : j < cnT K f D bk m N
    · obtain ⟨t, a, b⟩ := ih c
      exact ⟨t, by omega, b⟩
    · split at h
      · rename_i c2
        exact ⟨N, by omega, c2, by omega⟩
      · omega
theorem fsT_n {K : CO} {f : DV → Int32} {D : DV} {bk : Nat → Option Nat} {m : Nat} (hg : cG K ≤ 6) : ∀ t, t ≤ 48 → (fsT K f D bk m t = -1 ↔ cnT K f D bk m t = 0) := by
  intro t
  induction t with
  | zero => intro _; exact ⟨fun _ => rfl, fun _ => rfl⟩
  | succ t ih =>
    intro ht
    have d1 : t / cG K ≤ t := Nat.div_le_self _ _
    have d2 : t % cG K ≤ t := Nat.mod_le _ _
    rw [fsT, cnT]
    by_cases c : fitT K f D bk m t = true
    · rw [if_pos c]
      by_cases c0 : cnT K f D bk m t = 0
      · rw [if_pos ⟨c, c0⟩]
        exact ⟨fun e => absurd e (nI_ne (by omega)), fun e => by omega⟩
      · rw [if_neg (fun q => c0 q.2), ih (by omega)]
        omega
    · rw [if_neg c, if_neg (fun q => c q.1), ih (by omega)]
      omega
theorem dvmd {h g G : Nat} (hg : g < G) : (h * G + g) / G = h ∧ (h * G + g) % G = g := by
  constructor
  · rw [Nat.add_comm, Nat.add_mul_div_right _ _ (by omega), Nat.div_eq_of_lt hg, Nat.zero_add]
  · rw [Nat.add_comm, Nat.add_mul_mod_self_right, Nat.mod_eq_of_lt hg]
theorem tlt {h g H G : Nat} (hh : h < H) (hg : g < G) (h8 : H ≤ 8) (h6 : G ≤ 6) : h * G + g < H * G ∧ H * G ≤ 48 ∧ h * G + G ≤ H * G := by
  have a : (h + 1) * G ≤ H * G := Nat.mul_le_mul_right _ hh
  have b : H * G ≤ 8 * 6 := Nat.mul_le_mul h8 h6
  rw [Nat.succ_mul] at a
  omega
def tyT (K : CO) (f : DV → Int32) (D : DV) (bk : Nat → Option Nat) (m k : Nat) : Nat → (Nat → Nat) × Nat
  | 0 => (fun _ => 0, 0)
  | t + 1 => if fitT K f D bk m t = true then (fun v => if v = (alS K f D m (t / cG K) (t % cG K) k).toNatClampNeg then (tyT K f D bk m k t).1 v + 1 else (tyT K f D bk m k t).1 v, max (tyT K f D bk m k t).2 ((tyT K f D bk m k t).1 (alS K f D m (t / cG K) (t % cG K) k).toNatClampNeg + 1)) else tyT K f D bk m k t
theorem tyT_le {K : CO} {f : DV → Int32} {D : DV} {bk : Nat → Option Nat} {m k : Nat} : ∀ t, (tyT K f D bk m k t).2 ≤ t ∧ ∀ v, (tyT K f D bk m k t).1 v ≤ t := by
  intro t
  induction t with
  | zero => exact ⟨Nat.le_refl _, fun _ => Nat.le_refl _⟩
  | succ t ih =>
    rw [tyT]
    split
    · refine ⟨?_, fun v => ?_⟩
      · show max _ _ ≤ t + 1
        have a := ih.1
        have b := ih.2 (alS K f D m (t / cG K) (t % cG K) k).toNatClampNeg
        omega
      · have b := ih.2 v
        by_cases c : v = (alS K f D m (t / cG K) (t % cG K) k).toNatClampNeg
        · exact Nat.le_trans (Nat.le_of_eq (if_pos c)) (Nat.succ_le_succ b)
        · exact Nat.le_trans (Nat.le_of_eq (if_neg c)) (Nat.le_succ_of_le b)
    · exact ⟨by have := ih.1; omega, fun v => by have := ih.2 v; omega⟩
theorem tyT_skip {K : CO} {f : DV → Int32} {D : DV} {bk : Nat → Option Nat} {m k : Nat} : ∀ j t, cnT K f D bk m (t + j) = cnT K f D bk m t → tyT K f D bk m k (t + j) = tyT K f D bk m k t := by
  intro j
  induction j with
  | zero => intro t _; rfl
  | succ j ih =>
    intro t e
    have m1 := cnT_mono (K := K) (f := f) (D := D) (bk := bk) (m := m) j t
    have e1 : cnT K f D bk m (t + (j + 1)) = cnT K f D bk m (t + j) + (if fitT K f D bk m (t + j) = true then 1 else 0) := rfl
    have c : ¬ fitT K f D bk m (t + j) = true := fun c => by rw [if_pos c] at e1; omega
    rw [if_neg c] at e1
    rw [← Nat.add_assoc, tyT, if_neg c]
    exact ih t (by omega)
def loT (K : CO) (f : DV → Int32) (D : DV) (bk : Nat → Option Nat) (m : Nat) : Nat → Int32 × Int32
  | 0 => (-1, -1)
  | k + 1 => if bk k = none then (if (loT K f D bk m k).1 = -1 ∨ nI (tyT K f D bk m k (cH K * cG K)).2 < (loT K f D bk m k).2 then (nI k, nI (tyT K f D bk m k (cH K * cG K)).2) else loT K f D bk m k) else loT K f D bk m k
theorem c_X1_isTold {G : Gx} {d : Nat} {I : FI} {R : FR} {J : FJ} {Q : Po} (hRK : RK R) {b nb : Nat} {bk : Nat → Option Nat} (hb : b = 63 ∨ b = 66) (hB : BookC I b nb bk) {k : Nat} (hk : k < 2 ^ 31) (h1 : ¬ bk k = none → Q (.inl (some (.int 1))) 103 I R J) (h0 : bk k = none → Q (.inl (some (.int 0))) 103 I R J) : Cc G mX1_isTold d 0 0 [rf G b, .int (nI k)] 103 I R J Q := by
  have hB0 := hB
  obtain ⟨h8, h2, hr, sr, hv, hs⟩ := hB
  obtain ⟨lyb0, lyb1, lyb2⟩ := ly_b hb
  have L : ∀ i, i ≤ nb → (∀ j, j < i → ¬ hr j = k) → V G mX1_isTold d 0 0 0 0 2 [(2, .int (nI i)), (0, rf G b), (1, .int (nI k))] [] 103 I R J Q := by
    refine loopd nb (fun hn => ?_) (fun i hi ih hn => ?_)
    · refine V_iload_n 3 0 rfl rfl dX1_isTold_2 rfl ?_
      refine V_aload_n 4 1 rfl _ rfl rfl dX1_isTold_3 rfl ?_
      refine V_getI 7 b 1 2 (nI nb) h2 flX1_18 rfl (ly_b hb).1 rfl (by omega) dX1_isTold_4 rfl ?_
      refine V_icmp_ge 28 10 rfl dX1_isTold_7 rfl (fun c7 => ?_) (fun c7 => absurd (Int32.le_refl _) c7)
      refine V_iconst 29 (0) rfl dX1_isTold_28 rfl ?_
      refine V_ret_i rfl (by first | rfl | decide) (Nat.le_of_ble_eq_true rfl) (fun h => absurd h (by decide)) (Nat.le_of_ble_eq_true rfl) (h0 (by cases e : bk k with | none => rfl | some v => (obtain ⟨i, hi, ei⟩ := hs k v e; exact absurd ei (hn i hi)))) dX1_isTold_29
    · refine V_iload_n 3 0 rfl rfl dX1_isTold_2 rfl ?_
      refine V_aload_n 4 1 rfl _ rfl rfl dX1_isTold_3 rfl ?_
      refine V_getI 7 b 1 2 (nI nb) h2 flX1_18 rfl (ly_b hb).1 rfl (by omega) dX1_isTold_4 rfl ?_
      refine V_icmp_ge 28 10 rfl dX1_isTold_7 rfl (fun c7 => absurd c7 (nI_ge hi (by omega))) (fun c7 => ?_)
      refine V_aload_n 11 1 rfl _ rfl rfl dX1_isTold_10 rfl ?_
      refine V_getR 14 b 1 0 (b + 1) (rk_b0 hRK hb) flX1_11 rfl (ly_b hb).1 rfl (by omega) dX1_isTold_11 rfl ?_
      refine V_iload_n 15 0 rfl rfl dX1_isTold_14 rfl ?_
      refine V_ialdN 16 (b + 1) 8 i (nI (hr i)) (hv i hi).1 (by omega) (by decide) (ly_b hb).2.1 (by omega) dX1_isTold_15 rfl ?_
      refine V_iload_n 17 2 rfl rfl dX1_isTold_16 rfl ?_
      refine V_icmp_ne 22 20 rfl dX1_isTold_17 rfl (fun c17 => ?_) (fun c17 => ?_)
      · refine V_iinc 25 0 rfl (nI (i + 1)) [(2, .int (nI (i + 1))), (0, rf G b), (1, .int (nI k))] (nI_1 _) (by decide) rfl dX1_isTold_22 rfl ?_
        refine V_goto 2 rfl dX1_isTold_25 ?_
        exact V_lv [0, 1, 2] rfl (ih (fun j hj e => by by_cases c : j = i; (subst c; exact c17 (by rw [e])); exact hn j (by omega) e))
      · refine V_iconst 21 (1) rfl dX1_isTold_20 rfl ?_
        refine V_ret_i rfl (by first | rfl | decide) (Nat.le_of_ble_eq_true rfl) (fun h => absurd h (by decide)) (Nat.le_of_ble_eq_true rfl) (h1 (fun e => by have q := (hv i hi).2.2.2.2; rw [(nI_eq (by have := (hv i hi).2.1; omega) hk).mp c17, e] at q; cases q)) dX1_isTold_21
  show V _ _ _ _ _ _ _ _ [(0, rf G b), (1, .int (nI k))] [] _ _ _ _ _
  refine V_iconst 1 (0) rfl dX1_isTold_0 rfl ?_
  refine V_istore_n 2 [(2, .int 0), (0, rf G b), (1, .int (nI k))] (by decide) rfl rfl dX1_isTold_1 rfl ?_
  exact V_lv [0, 1, 2] rfl (L 0 (Nat.zero_le _) (fun j hj => absurd hj (Nat.not_lt_zero _)))
theorem mx_eq {a b : Nat} (ha : a < 2 ^ 31) (hb : b < 2 ^ 31) : (if nI a < nI b then nI b else nI a) = nI (max a b) := by
  by_cases c : a < b
  · rw [if_pos ((nI_ltI ha hb).mpr c), Nat.max_eq_right (by omega)]
  · rw [if_neg (fun q => c ((nI_ltI ha hb).mp q)), Nat.max_eq_left (by omega)]
theorem c_X1_hoursNeeded {G : Gx} {d : Nat} {I : FI} {R : FR} {J : FJ} {Q : Po} (hRK : RK R) {b nb : Nat} {bk : Nat → Option Nat} (hb : b = 63 ∨ b = 66) (hB : BookC I b nb bk) (hq : ∀ n, n ≤ 24 → (∀ k v, bk k = some v → k < n) → Q (.inl (some (.int (nI n)))) 103 I R J) : Cc G mX1_hoursNeeded d 0 0 [rf G b] 103 I R J Q := by
  have hB0 := hB
  obtain ⟨h8, h2, hr, sr, hv, hs⟩ := hB
  obtain ⟨lyb0, lyb1, lyb2⟩ := ly_b hb
  have L : ∀ i, i ≤ nb → ∀ n, n ≤ 24 → (∀ j, j < i → hr j < n) → V G mX1_hoursNeeded d 0 0 0 0 4 [(2, .int (nI i)), (1, .int (nI n)), (0, rf G b)] [] 103 I R J Q := by
    refine loopd nb (fun n hn hj => ?_) (fun i hi ih n hn hj => ?_)
    · refine V_iload_n 5 0 rfl rfl dX1_hoursNeeded_4 rfl ?_
      refine V_aload_n 6 2 rfl _ rfl rfl dX1_hoursNeeded_5 rfl ?_
      refine V_getI 9 b 1 2 (nI nb) h2 flX1_18 rfl (ly_b hb).1 rfl (by omega) dX1_hoursNeeded_6 rfl ?_
      refine V_icmp_ge 31 12 rfl dX1_hoursNeeded_9 rfl (fun c9 => ?_) (fun c9 => absurd (Int32.le_refl _) c9)
      refine V_iload_n 32 1 rfl rfl dX1_hoursNeeded_31 rfl ?_
      refine V_ret_i rfl rfl (Nat.le_of_ble_eq_true rfl) (fun h => absurd h (by decide)) (Nat.le_of_ble_eq_true rfl) (hq n hn (fun k v e => by obtain ⟨i, hi, ei⟩ := hs k v e; rw [← ei]; exact hj i hi)) dX1_hoursNeeded_32
    · refine V_iload_n 5 0 rfl rfl dX1_hoursNeeded_4 rfl ?_
      refine V_aload_n 6 2 rfl _ rfl rfl dX1_hoursNeeded_5 rfl ?_
      refine V_getI 9 b 1 2 (nI nb) h2 flX1_18 rfl (ly_b hb).1 rfl (by omega) dX1_hoursNeeded_6 rfl ?_
      refine V_icmp_ge 31 12 rfl dX1_hoursNeeded_9 rfl (fun c9 => absurd c9 (nI_ge hi (by omega))) (fun c9 => ?_)
      refine V_iload_n 13 1 rfl rfl dX1_hoursNeeded_12 rfl ?_
      refine V_aload_n 14 2 rfl _ rfl rfl dX1_hoursNeeded_13 rfl ?_
      refine V_getR 17 b 1 0 (b + 1) (rk_b0 hRK hb) flX1_11 rfl (ly_b hb).1 rfl (by omega) dX1_hoursNeeded_14 rfl ?_
      refine V_iload_n 18 0 rfl rfl dX1_hoursNeeded_17 rfl ?_
      refine V_ialdN 19 (b + 1) 8 i (nI (hr i)) (hv i hi).1 (by omega) (by decide) (ly_b hb).2.1 (by omega) dX1_hoursNeeded_18 rfl ?_
      refine V_iconst 20 (1) rfl dX1_hoursNeeded_19 rfl ?_
      refine V_iadd 21 dX1_hoursNeeded_20 rfl ?_
      refine V_rw (nI_add (hr i) 1) ?_
      refine V_max 24 lkX1_57 (Nat.le_of_ble_eq_true rfl) (Nat.le_of_ble_eq_true rfl) (Nat.le_of_ble_eq_true rfl) dX1_hoursNeeded_21 rfl ?_
      refine V_rw (show _ = nI (max n (hr i + 1)) from mx_eq (by omega) (by have := (hv i hi).2.1; omega)) ?_
      refine V_istore_n 25 [(1, .int (nI (max n (hr i + 1)))), (2, .int (nI i)), (0, rf G b)] (by decide) rfl rfl dX1_hoursNeeded_24 rfl ?_
      refine V_iinc 28 1 rfl (nI (i + 1)) [(2, .int (nI (i + 1))), (1, .int (nI (max n (hr i + 1)))), (0, rf G b)] (nI_1 _) (by decide) rfl dX1_hoursNeeded_25 rfl ?_
      refine V_goto 4 rfl dX1_hoursNeeded_28 ?_
      exact V_lv [0, 1, 2] rfl (ih _ (by have := (hv i hi).2.1; omega) (fun j q => by by_cases c : j = i; (subst c; omega); have := hj j (by omega); omega))
  show V _ _ _ _ _ _ _ _ [(0, rf G b)] [] _ _ _ _ _
  refine V_iconst 1 (0) rfl dX1_hoursNeeded_0 rfl ?_
  refine V_istore_n 2 [(1, .int 0), (0, rf G b)] (by decide) rfl rfl dX1_hoursNeeded_1 rfl ?_
  refine V_iconst 3 (0) rfl dX1_hoursNeeded_2 rfl ?_
  refine V_istore_n 4 [(2, .int 0), (1, .int 0), (0, rf G b)] (by decide) rfl rfl dX1_hoursNeeded_3 rfl ?_
  exact V_lv [0, 1, 2] rfl (L 0 (Nat.zero_le _) 0 (by decide) (fun j hj => absurd hj (Nat.not_lt_zero _)))
theorem c_X1_isRight {G : Gx} {d : Nat} {I : FI} {R : FR} {J : FJ} {Q : Po} (hRK : RK R) {b nb : Nat} {bk : Nat → Option Nat} (hb : b = 63 ∨ b = 66) (hB : BookC I b nb bk) {S : Nat → Int32} {p : Nat} (hp : p + 24 ≤ 1152) (hS : ∀ k v, bk k = some v → I 44 (p + k) = S k) (h1 : fiB S bk 24 = true → Q (.inl (some (.int 1))) 103 I R J) (h0 : fiB S bk 24 = false → Q (.inl (some (.int 0))) 103 I R J) : Cc G mX1_isRight d 0 0 [rf G b, rf G 44, .int (nI p)] 103 I R J Q := by
  have hB0 := hB
  obtain ⟨h8, h2, hr, sr, hv, hs⟩ := hB
  obtain ⟨lyb0, lyb1, lyb2⟩ := ly_b hb
  have L : ∀ i, i ≤ nb → (∀ j, j < i → S (hr j) = nI (sr j)) → V G mX1_isRight d 0 0 0 0 2 [(3, .int (nI i)), (0, rf G b), (1, rf G 44), (2, .int (nI p))] [] 103 I R J Q := by
    refine loopd nb (fun hn => ?_) (fun i hi ih hn => ?_)
    · refine V_iload_n 3 0 rfl rfl dX1_isRight_2 rfl ?_
      refine V_aload_n 4 1 rfl _ rfl rfl dX1_isRight_3 rfl ?_
      refine V_getI 7 b 1 2 (nI nb) h2 flX1_18 rfl (ly_b hb).1 rfl (by omega) dX1_isRight_4 rfl ?_
      refine V_icmp_ge 37 10 rfl dX1_isRight_7 rfl (fun c7 => ?_) (fun c7 => absurd (Int32.le_refl _) c7)
      refine V_iconst 38 (1) rfl dX1_isRight_37 rfl ?_
      refine V_ret_i rfl (by first | rfl | decide) (Nat.le_of_ble_eq_true rfl) (fun h => absurd h (by decide)) (Nat.le_of_ble_eq_true rfl) (h1 ((fiB_iff 24).mpr (fun k _ v e => by obtain ⟨i, hi, ei⟩ := hs k v e; have q := (hv i hi).2.2.2.2; rw [ei, e] at q; cases q; rw [← ei]; exact hn i hi))) dX1_isRight_38
    · have hr24 := (hv i hi).2.1
      have hbk := (hv i hi).2.2.2.2
      refine V_iload_n 3 0 rfl rfl dX1_isRight_2 rfl ?_
      refine V_aload_n 4 1 rfl _ rfl rfl dX1_isRight_3 rfl ?_
      refine V_getI 7 b 1 2 (nI nb) h2 flX1_18 rfl (ly_b hb).1 rfl (by omega) dX1_isRight_4 rfl ?_
      refine V_icmp_ge 37 10 rfl dX1_isRight_7 rfl (fun c7 => absurd c7 (nI_ge hi (by omega))) (fun c7 => ?_)
      refine V_aload_n 11 2 rfl _ rfl rfl dX1_isRight_10 rfl ?_
      refine V_iload_n 12 3 rfl rfl dX1_isRight_11 rfl ?_
      refine V_aload_n 13 1 rfl _ rfl rfl dX1_isRight_12 rfl ?_
      refine V_getR 16 b 1 0 (b + 1) (rk_b0 hRK hb) flX1_11 rfl (ly_b hb).1 rfl (by omega) dX1_isRight_13 rfl ?_
      refine V_iload_n 17 0 rfl rfl dX1_isRight_16 rfl ?_
      refine V_ialdN 18 (b + 1) 8 i (nI (hr i)) (hv i hi).1 (by omega) (by decide) (ly_b hb).2.1 (by omega) dX1_isRight_17 rfl ?_
      refine V_iadd 19 dX1_isRight_18 rfl ?_
      refine V_rw (nI_add p (hr i)) ?_
      refine V_ialdN 20 44 1152 (p + (hr i)) (S (hr i)) (hS (hr i) _ hbk) (by omega) (by decide) rfl (by decide) dX1_isRight_19 rfl ?_
      refine V_aload_n 21 1 rfl _ rfl rfl dX1_isRight_20 rfl ?_
      refine V_getR 24 b 1 1 (b + 2) (rk_b1 hRK hb) flX1_15 rfl (ly_b hb).1 rfl (by omega) dX1_isRight_21 rfl ?_
      refine V_iload_n 25 0 rfl rfl dX1_isRight_24 rfl ?_
      refine V_ialdN 26 (b + 2) 8 i (nI (sr i)) (hv i hi).2.2.1 (by omega) (by decide) (ly_b hb).2.2 (by omega) dX1_isRight_25 rfl ?_
      refine V_icmp_eq 31 29 rfl dX1_isRight_26 rfl (fun c26 => ?_) (fun c26 => ?_)
      · refine V_iinc 34 0 rfl (nI (i + 1)) [(3, .int (nI (i + 1))), (0, rf G b), (1, rf G 44), (2, .int (nI p))] (nI_1 _) (by decide) rfl dX1_isRight_31 rfl ?_
        refine V_goto 2 rfl dX1_isRight_34 ?_
        exact V_lv [0, 1, 2, 3] rfl (ih (fun j q => by by_cases c : j = i; (subst c; exact c26); exact hn j (by omega)))
      · refine V_iconst 30 (0) rfl dX1_isRight_29 rfl ?_
        refine V_ret_i rfl (by first | rfl | decide) (Nat.le_of_ble_eq_true rfl) (fun h => absurd h (by decide)) (Nat.le_of_ble_eq_true rfl) (h0 (by cases e : fiB S bk 24 with | false => rfl | true => exact absurd ((fiB_iff 24).mp e (hr i) hr24 (sr i) hbk) c26)) dX1_isRight_30
  show V _ _ _ _ _ _ _ _ [(0, rf G b), (1, rf G 44), (2, .int (nI p))] [] _ _ _ _ _
  refine V_iconst 1 (0) rfl dX1_isRight_0 rfl ?_
  refine V_istore_n 2 [(3, .int 0), (0, rf G b), (1, rf G 44), (2, .int (nI p))] (by decide) rfl rfl dX1_isRight_1 rfl ?_
  exact V_lv [0, 1, 2, 3] rfl (L 0 (Nat.zero_le _) (fun j hj => absurd hj (Nat.not_lt_zero _)))
