/-! ===== the class's Coast ===== -/
/-- what a COAST tells: how many hats, grounds, men; hats and grounds in pairs as the reference has them; boats; heirs -/
abbrev CO : Type := Nat × Nat × Nat × DV × DV × DV × (Nat → Option Nat)
def cH (K : CO) : Nat := K.1
def cG (K : CO) : Nat := K.2.1
def cM (K : CO) : Nat := K.2.2.1
def cHat (K : CO) : DV := K.2.2.2.1
def cGr (K : CO) : DV := K.2.2.2.2.1
def cBt (K : CO) : DV := K.2.2.2.2.2.1
def cHr (K : CO) : Nat → Option Nat := K.2.2.2.2.2.2
def CoastC (I : FI) (c : Nat) (K : CO) : Prop := I c 6 = nI (cH K) ∧ I c 7 = nI (cG K) ∧ I c 8 = nI (cM K) ∧ (∀ h, h < cH K → I (c + 1) h = cHat K (2 * h)) ∧ (∀ h, h < cH K → I (c + 2) h = cHat K (2 * h + 1)) ∧ (∀ g, g < cG K → I (c + 3) g = cGr K (2 * g)) ∧ (∀ g, g < cG K → I (c + 4) g = cGr K (2 * g + 1)) ∧ (∀ m, m < cM K → I (c + 5) m = cBt K m) ∧ (∀ m, m < cM K → I (c + 6) m = oI (cHr K m))
/-- the bounds of a COAST -/
def WK (K : CO) : Prop := cH K ≤ 8 ∧ cG K ≤ 6 ∧ cM K ≤ 6 ∧ (∀ m j, cHr K m = some j → j < cM K) ∧ (∀ h, h < cH K → ∃ a s, 1 ≤ a ∧ a ≤ 12 ∧ s < 8 ∧ cHat K (2 * h) = nI a ∧ cHat K (2 * h + 1) = nI s) ∧ (∀ g, g < cG K → ∃ f s, f ≤ 999 ∧ s < 8 ∧ cGr K (2 * g) = nI f ∧ cGr K (2 * g + 1) = nI s) ∧ ∀ m, m < cM K → ∃ b, 1 ≤ b ∧ b ≤ 99 ∧ cBt K m = nI b
def fromF (f : DV) (s : Int32) : Nat → Int32
  | 0 => 0
  | h + 1 => fromF f s h ||| (if f (2 * h + 1) = s then (1 : Int32) <<< (nI h &&& 31) else (0 : Int32))
def absF (x : Int32) : Int32 := if 0 ≤ x then x else 0 - x
def angF (x y : Int32) : Int32 := if 8 - absF (x - y) < absF (x - y) then 8 - absF (x - y) else absF (x - y)
def itN (hr : Nat → Option Nat) : Nat → Nat → Option Nat
  | 0, m => some m
  | k + 1, m => (itN hr k m).bind hr
theorem itN_no {hr : Nat → Option Nat} {m k : Nat} (h : itN hr k m = none) : ∀ j, k ≤ j → itN hr j m = none := by
  intro j hj
  induction j with
  | zero => rw [show k = 0 by omega] at h; exact h
  | succ j ih =>
    by_cases c : k = j + 1
    · subst c; exact h
    · rw [itN, ih (by omega)]; rfl
theorem itN_lt {hr : Nat → Option Nat} {M m : Nat} (hM : ∀ a j, hr a = some j → j < M) (hm : m < M) : ∀ k j, itN hr k m = some j → j < M := by
  intro k
  induction k with
  | zero => intro j h; cases h; exact hm
  | succ k ih =>
    intro j h
    rw [itN] at h
    cases e : itN hr k m with
    | none => rw [e] at h; cases h
    | some a => rw [e] at h; exact hM a j h
def hsF (n : Nat) : Nat := if n < 6 then n else 6 + (n - 6) % 60
/-- how many steps of heirs, from step k on (f steps left) -/
def stF (hr : Nat → Option Nat) (e : Nat) : Nat → Nat → Option Nat → Int32
  | 0, _, _ => -1
  | f + 1, k, x => match x with
    | none => -1
    | some a => if a = e then nI k else stF hr e f (k + 1) (hr a)
set_option maxHeartbeats 4000000 in
theorem c_X2_hatsFrom {G : Gx} {d : Nat} {I : FI} {R : FR} {J : FJ} {Q : Po} (hRK : RK R) {K : CO} {c : Nat} (hc : c = 4 ∨ c = 51) (hC : CoastC I c K) (hW : WK K) {s : Int32} (hq : Q (.inl (some (.int (fromF (cHat K) s (cH K))))) 103 I R J) : Cc G mX2_hatsFrom d 0 0 [rf G c, .int s] 103 I R J Q := by
  obtain ⟨w1, w2, w3, w4, w5, w6, w7⟩ := hW
  rcases hc with rfl | rfl
  · have L : ∀ i, i ≤ cH K → V G mX2_hatsFrom d 0 0 0 0 4 [(3, .int (nI i)), (2, .int (fromF (cHat K) s i)), (0, rf G 4), (1, .int s)] [] 103 I R J Q := by
      refine loopd (cH K) ?_ (fun i hi ih => ?_)
      · refine V_iload_n 5 0 rfl rfl dX2_hatsFrom_4 rfl ?_
        refine V_aload_n 6 2 rfl _ rfl rfl dX2_hatsFrom_5 rfl ?_
        refine V_getI 9 4 2 6 (nI (cH K)) hC.1 flX2_30 rfl rfl rfl (by decide) dX2_hatsFrom_6 rfl ?_
        refine V_icmp_ge 38 12 rfl dX2_hatsFrom_9 rfl (fun c9 => ?_) (fun c9 => absurd (Int32.le_refl _) c9)
        refine V_iload_n 39 1 rfl rfl dX2_hatsFrom_38 rfl ?_
        refine V_ret_i rfl rfl (Nat.le_refl _) (fun h => absurd h (by decide)) (Nat.le_refl _) (hq) dX2_hatsFrom_39
      · refine V_iload_n 5 0 rfl rfl dX2_hatsFrom_4 rfl ?_
        refine V_aload_n 6 2 rfl _ rfl rfl dX2_hatsFrom_5 rfl ?_
        refine V_getI 9 4 2 6 (nI (cH K)) hC.1 flX2_30 rfl rfl rfl (by decide) dX2_hatsFrom_6 rfl ?_
        refine V_icmp_ge 38 12 rfl dX2_hatsFrom_9 rfl (fun c9 => absurd c9 (nI_ge hi (by omega))) (fun c9 => ?_)
        refine V_iload_n 13 1 rfl rfl dX2_hatsFrom_12 rfl ?_
        refine V_aload_n 14 2 rfl _ rfl rfl dX2_hatsFrom_13 rfl ?_
        refine V_getR 17 4 2 1 6 (hRK 4 1 (by decide) (by decide) (by decide)) flX2_15 rfl rfl rfl (by decide) dX2_hatsFrom_14 rfl ?_
        refine V_iload_n 18 0 rfl rfl dX2_hatsFrom_17 rfl ?_
        refine V_ialdN 19 6 8 i (cHat K (2 * i + 1)) (hC.2.2.2.2.1 i hi) (by omega) (by decide) rfl (by decide) dX2_hatsFrom_18 rfl ?_
        refine V_iload_n 20 3 rfl rfl dX2_hatsFrom_19 rfl ?_
        refine V_icmp_ne 29 23 rfl dX2_hatsFrom_20 rfl (fun c20 => ?_) (fun c20 => ?_)
        · refine V_iconst 30 (0) rfl dX2_hatsFrom_29 rfl ?_
          refine V_ior 31 dX2_hatsFrom_30 rfl ?_
          refine V_rw (show _ = fromF (cHat K) s (i + 1) from by rw [fromF]; first | rw [if_pos c20] | rw [if_neg c20]) ?_
          refine V_istore_n 32 [(2, .int (fromF (cHat K) s (i + 1))), (3, .int (nI i)), (0, rf G 4), (1, .int s)] (by decide) rfl rfl dX2_hatsFrom_31 rfl ?_
          refine V_iinc 35 1 rfl (nI (i + 1)) [(3, .int (nI (i + 1))), (2, .int (fromF (cHat K) s (i + 1))), (0, rf G 4), (1, .int s)] (nI_1 _) (by decide) rfl dX2_hatsFrom_32 rfl ?_
          refine V_goto 4 rfl dX2_hatsFrom_35 ?_
          exact V_lv [0, 1, 2, 3] rfl ih
        · refine V_iconst 24 (1) rfl dX2_hatsFrom_23 rfl ?_
          refine V_iload_n 25 0 rfl rfl dX2_hatsFrom_24 rfl ?_
          refine V_ishl 26 dX2_hatsFrom_25 rfl ?_
          refine V_goto 30 rfl dX2_hatsFrom_26 ?_
          refine V_ior 31 dX2_hatsFrom_30 rfl ?_
          refine V_rw (show _ = fromF (cHat K) s (i + 1) from by rw [fromF]; first | rw [if_pos c20] | rw [if_neg c20]) ?_
          refine V_istore_n 32 [(2, .int (fromF (cHat K) s (i + 1))), (3, .int (nI i)), (0, rf G 4), (1, .int s)] (by decide) rfl rfl dX2_hatsFrom_31 rfl ?_
          refine V_iinc 35 1 rfl (nI (i + 1)) [(3, .int (nI (i + 1))), (2, .int (fromF (cHat K) s (i + 1))), (0, rf G 4), (1, .int s)] (nI_1 _) (by decide) rfl dX2_hatsFrom_32 rfl ?_
          refine V_goto 4 rfl dX2_hatsFrom_35 ?_
          exact V_lv [0, 1, 2, 3] rfl ih
    show V _ _ _ _ _ _ _ _ [(0, rf G 4), (1, .int s)] [] _ _ _ _ _
    refine V_iconst 1 (0) rfl dX2_hatsFrom_0 rfl ?_
    refine V_istore_n 2 [(2, .int 0), (0, rf G 4), (1, .int s)] (by decide) rfl rfl dX2_hatsFrom_1 rfl ?_
    refine V_iconst 3 (0) rfl dX2_hatsFrom_2 rfl ?_
    refine V_istore_n 4 [(3, .int 0), (2, .int 0), (0, rf G 4), (1, .int s)] (by decide) rfl rfl dX2_hatsFrom_3 rfl ?_
    exact V_lv [0, 1, 2, 3] rfl (L 0 (Nat.zero_le _))
  · have L : ∀ i, i ≤ cH K → V G mX2_hatsFrom d 0 0 0 0 4 [(3, .int (nI i)), (2, .int (fromF (cHat K) s i)), (0, rf G 51), (1, .int s)] [] 103 I R J Q := by
      refine loopd (cH K) ?_ (fun i hi ih => ?_)
      · refine V_iload_n 5 0 rfl rfl dX2_hatsFrom_4 rfl ?_
        refine V_aload_n 6 2 rfl _ rfl rfl dX2_hatsFrom_5 rfl ?_
        refine V_getI 9 51 2 6 (nI (cH K)) hC.1 flX2_30 rfl rfl rfl (by decide) dX2_hatsFrom_6 rfl ?_
        refine V_icmp_ge 38 12 rfl dX2_hatsFrom_9 rfl (fun c9 => ?_) (fun c9 => absurd (Int32.le_refl _) c9)
        refine V_iload_n 39 1 rfl rfl dX2_hatsFrom_38 rfl ?_
        refine V_ret_i rfl rfl (Nat.le_refl _) (fun h => absurd h (by decide)) (Nat.le_refl _) (hq) dX2_hatsFrom_39
      · refine V_iload_n 5 0 rfl rfl dX2_hatsFrom_4 rfl ?_
        refine V_aload_n 6 2 rfl _ rfl rfl dX2_hatsFrom_5 rfl ?_
        refine V_getI 9 51 2 6 (nI (cH K)) hC.1 flX2_30 rfl rfl rfl (by decide) dX2_hatsFrom_6 rfl ?_
        refine V_icmp_ge 38 12 rfl dX2_hatsFrom_9 rfl (fun c9 => absurd c9 (nI_ge hi (by omega))) (fun c9 => ?_)
        refine V_iload_n 13 1 rfl rfl dX2_hatsFrom_12 rfl ?_
        refine V_aload_n 14 2 rfl _ rfl rfl dX2_hatsFrom_13 rfl ?_
        refine V_getR 17 51 2 1 53 (hRK 51 1 (by decide) (by decide) (by decide)) flX2_15 rfl rfl rfl (by decide) dX2_hatsFrom_14 rfl ?_
        refine V_iload_n 18 0 rfl rfl dX2_hatsFrom_17 rfl ?_
        refine V_ialdN 19 53 8 i (cHat K (2 * i + 1)) (hC.2.2.2.2.1 i hi) (by omega) (by decide) rfl (by decide) dX2_hatsFrom_18 rfl ?_
        refine V_iload_n 20 3 rfl rfl dX2_hatsFrom_19 rfl ?_
        refine V_icmp_ne 29 23 rfl dX2_hatsFrom_20 rfl (fun c20 => ?_) (fun c20 => ?_)
        · refine V_iconst 30 (0) rfl dX2_hatsFrom_29 rfl ?_
          refine V_ior 31 dX2_hatsFrom_30 rfl ?_
          refine V_rw (show _ = fromF (cHat K) s (i + 1) from by rw [fromF]; first | rw [if_pos c20] | rw [if_neg c20]) ?_
          refine V_istore_n 32 [(2, .int (fromF (cHat K) s (i + 1))), (3, .int (nI i)), (0, rf G 51), (1, .int s)] (by decide) rfl rfl dX2_hatsFrom_31 rfl ?_
          refine V_iinc 35 1 rfl (nI (i + 1)) [(3, .int (nI (i + 1))), (2, .int (fromF (cHat K) s (i + 1))), (0, rf G 51), (1, .int s)] (nI_1 _) (by decide) rfl dX2_hatsFrom_32 rfl ?_
          refine V_goto 4 rfl dX2_hatsFrom_35 ?_
          exact V_lv [0, 1, 2, 3] rfl ih
        · refine V_iconst 24 (1) rfl dX2_hatsFrom_23 rfl ?_
          refine V_iload_n 25 0 rfl rfl dX2_hatsFrom_24 rfl ?_
          refine V_ishl 26 dX2_hatsFrom_25 rfl ?_
          refine V_goto 30 rfl dX2_hatsFrom_26 ?_
          refine V_ior 31 dX2_hatsFrom_30 rfl ?_
          refine V_rw (show _ = fromF (cHat K) s (i + 1) from by rw [fromF]; first | rw [if_pos c20] | rw [if_neg c20]) ?_
          refine V_istore_n 32 [(2, .int (fromF (cHat K) s (i + 1))), (3, .int (nI i)), (0, rf G 51), (1, .int s)] (by decide) rfl rfl dX2_hatsFrom_31 rfl ?_
          refine V_iinc 35 1 rfl (nI (i + 1)) [(3, .int (nI (i + 1))), (2, .int (fromF (cHat K) s (i + 1))), (0, rf G 51), (1, .int s)] (nI_1 _) (by decide) rfl dX2_hatsFrom_32 rfl ?_
          refine V_goto 4 rfl dX2_hatsFrom_35 ?_
          exact V_lv [0, 1, 2, 3] rfl ih
    show V _ _ _ _ _ _ _ _ [(0, rf G 51), (1, .int s)] [] _ _ _ _ _
    refine V_iconst 1 (0) rfl dX2_hatsFrom_0 rfl ?_
    refine V_istore_n 2 [(2, .int 0), (0, rf G 51), (1, .int s)] (by decide) rfl rfl dX2_hatsFrom_1 rfl ?_
    refine V_iconst 3 (0) rfl dX2_hatsFrom_2 rfl ?_
    refine V_istore_n 4 [(3, .int 0), (2, .int 0), (0, rf G 51), (1, .int s)] (by decide) rfl rfl dX2_hatsFrom_3 rfl ?_
    exact V_lv [0, 1, 2, 3] rfl (L 0 (Nat.zero_le _))
theorem ang_d : ∀ s, s < 8 → ∀ r, r < 8 → (if 4 < ((nI s - nI r) &&& 7) then 8 - ((nI s - nI r) &&& 7) else ((nI s - nI r) &&& 7)) = angF (nI s) (nI r) := by decide +kernel
theorem ang_eq {x y : Int32} {s r : Nat} (hs : s < 8) (hr : r < 8) (hx : x = nI s) (hy : y = nI r) : (if 4 < ((x - y) &&& 7) then 8 - ((x - y) &&& 7) else ((x - y) &&& 7)) = angF x y := by
  subst hx
  subst hy
  exact ang_d s hs r hr
set_option maxHeartbeats 4000000 in
theorem c_X2_angleOf {G : Gx} {d : Nat} {I : FI} {R : FR} {J : FJ} {Q : Po} (hRK : RK R) {K : CO} {c : Nat} (hc : c = 4 ∨ c = 51) (hC : CoastC I c K) (hW : WK K) {h g : Nat} (hh : h < cH K) (hg : g < cG K) (hq : Q (.inl (some (.int (angF (cHat K (2 * h + 1)) (cGr K (2 * g + 1)))))) 103 I R J) : Cc G mX2_angleOf d 0 0 [rf G c, .int (nI h), .int (nI g)] 103 I R J Q := by
  obtain ⟨w1, w2, w3, w4, w5, w6, w7⟩ := hW
  rcases hc with rfl | rfl
  · obtain ⟨a_, s_, -, -, hs_, -, e1_⟩ := w5 h hh
    obtain ⟨f_, r_, -, hr_, -, e2_⟩ := w6 g hg
    have qa := ang_eq hs_ hr_ e1_ e2_
    show V _ _ _ _ _ _ _ _ [(0, rf G 4), (1, .int (nI h)), (2, .int (nI g))] [] _ _ _ _ _
    refine V_aload_n 1 0 rfl _ rfl rfl dX2_angleOf_0 rfl ?_
    refine V_getR 4 4 2 1 6 (hRK 4 1 (by decide) (by decide) (by decide)) flX2_15 rfl rfl rfl (by decide) dX2_angleOf_1 rfl ?_
    refine V_iload_n 5 1 rfl rfl dX2_angleOf_4 rfl ?_
    refine V_ialdN 6 6 8 h (cHat K (2 * h + 1)) (hC.2.2.2.2.1 h hh) (by omega) (by decide) rfl (by decide) dX2_angleOf_5 rfl ?_
    refine V_aload_n 7 0 rfl _ rfl rfl dX2_angleOf_6 rfl ?_
    refine V_getR 10 4 2 3 8 (hRK 4 3 (by decide) (by decide) (by decide)) flX2_21 rfl rfl rfl (by decide) dX2_angleOf_7 rfl ?_
    refine V_iload_n 11 2 rfl rfl dX2_angleOf_10 rfl ?_
    refine V_ialdN 12 8 6 g (cGr K (2 * g + 1)) (hC.2.2.2.2.2.2.1 g hg) (by omega) (by decide) rfl (by decide) dX2_angleOf_11 rfl ?_
    refine V_isub 13 dX2_angleOf_12 rfl ?_
    refine V_bipush 15 (7) rfl dX2_angleOf_13 rfl ?_
    refine V_iand 16 dX2_angleOf_15 rfl ?_
    refine V_topi (fun y_ ey_ => ?_)
    refine V_istore_n 17 [(3, .int y_), (0, rf G 4), (1, .int (nI h)), (2, .int (nI g))] (by decide) rfl rfl dX2_angleOf_16 rfl ?_
    refine V_iload_n 18 0 rfl rfl dX2_angleOf_17 rfl ?_
    refine V_iconst 19 (4) rfl dX2_angleOf_18 rfl ?_
    refine V_icmp_gt 26 22 rfl dX2_angleOf_19 rfl (fun c19 => ?_) (fun c19 => ?_)
    · refine V_bipush 28 (8) rfl dX2_angleOf_26 rfl ?_
      refine V_iload_n 29 0 rfl rfl dX2_angleOf_28 rfl ?_
      refine V_isub 30 dX2_angleOf_29 rfl ?_
      refine V_ret_i rfl rfl (Nat.le_refl _) (fun h => absurd h (by decide)) (Nat.le_refl _) (by subst ey_; first | (rw [if_pos c19] at qa; rw [qa]; exact hq) | (rw [if_neg c19] at qa; rw [qa]; exact hq)) dX2_angleOf_30
    · refine V_iload_n 23 0 rfl rfl dX2_angleOf_22 rfl ?_
      refine V_goto 30 rfl dX2_angleOf_23 ?_
      refine V_ret_i rfl rfl (Nat.le_refl _) (fun h => absurd h (by decide)) (Nat.le_refl _) (by subst ey_; first | (rw [if_pos c19] at qa; rw [qa]; exact hq) | (rw [if_neg c19] at qa; rw [qa]; exact hq)) dX2_angleOf_30
  · obtain ⟨a_, s_, -, -, hs_, -, e1_⟩ := w5 h hh
    obtain ⟨f_, r_, -, hr_, -, e2_⟩ := w6 g hg
    have qa := ang_eq hs_ hr_ e1_ e2_
    show V _ _ _ _ _ _ _ _ [(0, rf G 51), (1, .int (nI h)), (2, .int (nI g))] [] _ _ _ _ _
    refine V_aload_n 1 0 rfl _ rfl rfl dX2_angleOf_0 rfl ?_
    refine V_getR 4 51 2 1 53 (hRK 51 1 (by decide) (by decide) (by decide)) flX2_15 rfl rfl rfl (by decide) dX2_angleOf_1 rfl ?_
    refine V_iload_n 5 1 rfl rfl dX2_angleOf_4 rfl ?_
    refine V_ialdN 6 53 8 h (cHat K (2 * h + 1)) (hC.2.2.2.2.1 h hh) (by omega) (by decide) rfl (by decide) dX2_angleOf_5 rfl ?_
    refine V_aload_n 7 0 rfl _ rfl rfl dX2_angleOf_6 rfl ?_
    refine V_getR 10 51 2 3 55 (hRK 51 3 (by decide) (by decide) (by decide)) flX2_21 rfl rfl rfl (by decide) dX2_angleOf_7 rfl ?_
    refine V_iload_n 11 2 rfl rfl dX2_angleOf_10 rfl ?_
    refine V_ialdN 12 55 6 g (cGr K (2 * g + 1)) (hC.2.2.2.2.2.2.1 g hg) (by omega) (by decide) rfl (by decide) dX2_angleOf_11 rfl ?_
    refine V_isub 13 dX2_angleOf_12 rfl ?_
    refine V_bipush 15 (7) rfl dX2_angleOf_13 rfl ?_
    refine V_iand 16 dX2_angleOf_15 rfl ?_
    refine V_topi (fun y_ ey_ => ?_)
    refine V_istore_n 17 [(3, .int y_), (0, rf G 51), (1, .int (nI h)), (2, .int (nI g))] (by decide) rfl rfl dX2_angleOf_16 rfl ?_
    refine V_iload_n 18 0 rfl rfl dX2_angleOf_17 rfl ?_
    refine V_iconst 19 (4) rfl dX2_angleOf_18 rfl ?_
    refine V_icmp_gt 26 22 rfl dX2_angleOf_19 rfl (fun c19 => ?_) (fun c19 => ?_)
    · refine V_bipush 28 (8) rfl dX2_angleOf_26 rfl ?_
      refine V_iload_n 29 0 rfl rfl dX2_angleOf_28 rfl ?_
      refine V_isub 30 dX2_angleOf_29 rfl ?_
      refine V_ret_i rfl rfl (Nat.le_refl _) (fun h => absurd h (by decide)) (Nat.le_refl _) (by subst ey_; first | (rw [if_pos c19] at qa; rw [qa]; exact hq) | (rw [if_neg c19] at qa; rw [qa]; exact hq)) dX2_angleOf_30
    · refine V_iload_n 23 0 rfl rfl dX2_angleOf_22 rfl ?_
      refine V_goto 30 rfl dX2_angleOf_23 ?_
      refine V_ret_i rfl rfl (Nat.le_refl _) (fun h => absurd h (by decide)) (Nat.le_refl _) (by subst ey_; first | (rw [if_pos c19] at qa; rw [qa]; exact hq) | (rw [if_neg c19] at qa; rw [qa]; exact hq)) dX2_angleOf_30
theorem oI_no {k : Option Nat} (h : ∀ j, k = some j → j < 2 ^ 31) (e : oI k = -1) : k = none := by
  cases k with
  | none => rfl
  | some j => exact absurd e (nI_ne (h j rfl))
set_option maxHeartbeats 4000000 in
theorem c_X2_heirAfter {G : Gx} {d : Nat} {I : FI} {R : FR} {J : FJ} {Q : Po} (hRK : RK R) {K : CO} {c : Nat} (hc : c = 4 ∨ c = 51) (hC : CoastC I c K) (hW : WK K) {m n : Nat} (hm : m < cM K) (hn : n ≤ 1000000) (hq : Q (.inl (some (.int (oI (itN (cHr K) (hsF n) m))))) 103 I R J) : Cc G mX2_heirAfter d 0 0 [rf G c, .int (nI m), .int (nI n)] 103 I R J Q := by
  obtain ⟨w1, w2, w3, w4, w5, w6, w7⟩ := hW
  rcases hc with rfl | rfl
  · have hS : hsF n ≤ 65 := by unfold hsF; split <;> omega
    have L : ∀ i, i ≤ hsF n → V G mX2_heirAfter d 0 0 0 0 27 [(5, .int (nI i)), (4, .int (oI (itN (cHr K) i m))), (3, .int (nI (hsF n))), (0, rf G 4)] [] 103 I R J Q := by
      refine loopd (hsF n) ?_ (fun i hi ih => ?_)
      · refine V_iload 29 0 rfl dX2_heirAfter_27 rfl ?_
        refine V_iload_n 30 2 rfl rfl dX2_heirAfter_29 rfl ?_
        refine V_icmp_ge 54 33 rfl dX2_heirAfter_30 rfl (fun c30 => ?_) (fun c30 => absurd (Int32.le_refl _) c30)
        refine V_iload 56 1 rfl dX2_heirAfter_54 rfl ?_
        refine V_ret_i rfl rfl (Nat.le_refl _) (fun h => absurd h (by decide)) (Nat.le_refl _) (hq) dX2_heirAfter_56
      · cases e : itN (cHr K) i m with
        | none =>
          rw [itN_no e _ (Nat.le_of_lt hi)] at hq
          refine V_iload 29 0 rfl dX2_heirAfter_27 rfl ?_
          refine V_iload_n 30 2 rfl rfl dX2_heirAfter_29 rfl ?_
          refine V_icmp_ge 54 33 rfl dX2_heirAfter_30 rfl (fun c30 => absurd c30 (nI_ge hi (by omega))) (fun c30 => ?_)
          refine V_iload 35 1 rfl dX2_heirAfter_33 rfl ?_
          refine V_iconst 36 (-1) rfl dX2_heirAfter_35 rfl ?_
          refine V_icmp_eq 54 39 rfl dX2_heirAfter_36 rfl (fun c36 => ?_) (fun c36 => absurd rfl c36)
          refine V_iload 56 1 rfl dX2_heirAfter_54 rfl ?_
          refine V_ret_i rfl rfl (Nat.le_refl _) (fun h => absurd h (by decide)) (Nat.le_refl _) (hq) dX2_heirAfter_56
        | some a =>
          have ha := itN_lt w4 hm i a e
          rw [itN, e] at ih
          refine V_iload 29 0 rfl dX2_heirAfter_27 rfl ?_
          refine V_iload_n 30 2 rfl rfl dX2_heirAfter_29 rfl ?_
          refine V_icmp_ge 54 33 rfl dX2_heirAfter_30 rfl (fun c30 => absurd c30 (nI_ge hi (by omega))) (fun c30 => ?_)
          refine V_iload 35 1 rfl dX2_heirAfter_33 rfl ?_
          refine V_iconst 36 (-1) rfl dX2_heirAfter_35 rfl ?_
          refine V_icmp_eq 54 39 rfl dX2_heirAfter_36 rfl (fun c36 => absurd c36 (nI_ne (by omega))) (fun c36 => ?_)
          refine V_aload_n 40 3 rfl _ rfl rfl dX2_heirAfter_39 rfl ?_
          refine V_getR 43 4 2 5 10 (hRK 4 5 (by decide) (by decide) (by decide)) flX2_27 rfl rfl rfl (by decide) dX2_heirAfter_40 rfl ?_
          refine V_iload 45 1 rfl dX2_heirAfter_43 rfl ?_
          refine V_ialdN 46 10 6 a (oI (cHr K a)) (hC.2.2.2.2.2.2.2.2 a ha) (by omega) (by decide) rfl (by decide) dX2_heirAfter_45 rfl ?_
          refine V_istore 48 [(4, .int (oI (cHr K a))), (5, .int (nI i)), (3, .int (nI (hsF n))), (0, rf G 4)] (by decide) rfl dX2_heirAfter_46 rfl ?_
          refine V_iinc 51 1 rfl (nI (i + 1)) [(5, .int (nI (i + 1))), (4, .int (oI (cHr K a))), (3, .int (nI (hsF n))), (0, rf G 4)] (nI_1 _) (by decide) rfl dX2_heirAfter_48 rfl ?_
          refine V_goto 27 rfl dX2_heirAfter_51 ?_
          exact V_lv [0, 1, 2, 3] rfl ih
    show V _ _ _ _ _ _ _ _ [(0, rf G 4), (1, .int (nI m)), (2, .int (nI n))] [] _ _ _ _ _
    by_cases h6 : n < 6
    · have e : hsF n = n := if_pos h6
      rw [e] at L
      refine V_iload_n 1 2 rfl rfl dX2_heirAfter_0 rfl ?_
      refine V_bipush 3 (6) rfl dX2_heirAfter_1 rfl ?_
      refine V_icmp_ge 10 6 rfl dX2_heirAfter_3 rfl (fun c3 => absurd c3 (nI_ge h6 (by decide))) (fun c3 => ?_)
      refine V_iload_n 7 2 rfl rfl dX2_heirAfter_6 rfl ?_
      refine V_goto 20 rfl dX2_heirAfter_7 ?_
      refine V_istore_n 21 [(3, .int (nI n)), (0, rf G 4), (1, .int (nI m)), (2, .int (nI n))] (by decide) rfl rfl dX2_heirAfter_20 rfl ?_
      refine V_iload_n 22 2 rfl rfl dX2_heirAfter_21 rfl ?_
      refine V_istore 24 [(4, .int (nI m)), (3, .int (nI n)), (0, rf G 4), (1, .int (nI m)), (2, .int (nI n))] (by decide) rfl dX2_heirAfter_22 rfl ?_
      refine V_iconst 25 (0) rfl dX2_heirAfter_24 rfl ?_
      refine V_istore 27 [(5, .int 0), (4, .int (nI m)), (3, .int (nI n)), (0, rf G 4), (1, .int (nI m)), (2, .int (nI n))] (by decide) rfl dX2_heirAfter_25 rfl ?_
      exact V_lv [0, 1, 2, 3] rfl (L 0 (Nat.zero_le _))
    · have e : hsF n = 6 + (n - 6) % 60 := if_neg h6
      have e2 : nI n - 6 = nI (n - 6) := pk_sub (a := n) (b := 6) (by omega)
      have e3 : nI (n - 6) - nI (n - 6) / 60 * 60 = nI ((n - 6) % 60) := pk_rem (d := 60) (by omega) (by decide) (by decide)
      have e4 : (6 : Int32) + nI ((n - 6) % 60) = nI (6 + (n - 6) % 60) := nI_add 6 _
      rw [e] at L
      refine V_iload_n 1 2 rfl rfl dX2_heirAfter_0 rfl ?_
      refine V_bipush 3 (6) rfl dX2_heirAfter_1 rfl ?_
      refine V_icmp_ge 10 6 rfl dX2_heirAfter_3 rfl (fun c3 => ?_) (fun c3 => absurd (nI_le (show 6 ≤ n by omega) (by omega)) c3)
      refine V_bipush 12 (6) rfl dX2_heirAfter_10 rfl ?_
      refine V_iload_n 13 2 rfl rfl dX2_heirAfter_12 rfl ?_
      refine V_bipush 15 (6) rfl dX2_heirAfter_13 rfl ?_
      refine V_isub 16 dX2_heirAfter_15 rfl ?_
      refine V_rw (e2) ?_
      refine V_bipush 18 (60) rfl dX2_heirAfter_16 rfl ?_
      refine V_irem 19 (by decide) dX2_heirAfter_18 rfl ?_
      refine V_rw (e3) ?_
      refine V_iadd 20 dX2_heirAfter_19 rfl ?_
      refine V_rw (e4) ?_
      refine V_istore_n 21 [(3, .int (nI (6 + (n - 6) % 60))), (0, rf G 4), (1, .int (nI m)), (2, .int (nI n))] (by decide) rfl rfl dX2_heirAfter_20 rfl ?_
      refine V_iload_n 22 2 rfl rfl dX2_heirAfter_21 rfl ?_
      refine V_istore 24 [(4, .int (nI m)), (3, .int (nI (6 + (n - 6) % 60))), (0, rf G 4), (1, .int (nI m)), (2, .int (nI n))] (by decide) rfl dX2_heirAfter_22 rfl ?_
      refine V_iconst 25 (0) rfl dX2_heirAfter_24 rfl ?_
      refine V_istore 27 [(5, .int 0), (4, .int (nI m)), (3, .int (nI (6 + (n - 6) % 60))), (0, rf G 4), (1, .int (nI m)), (2, .int (nI n))] (by decide) rfl dX2_heirAfter_25 rfl ?_
      exact V_lv [0, 1, 2, 3] rfl (L 0 (Nat.zero_le _))
  · have hS : hsF n ≤ 65 := by unfold hsF; split <;> omega
    have L : ∀ i, i ≤ hsF n → V G mX2_heirAfter d 0 0 0 0 27 [(5, .int (nI i)), (4, .int (oI (itN (cHr K) i m))), (3, .int (nI (hsF n))), (0, rf G 51)] [] 103 I R J Q := by
      refine loopd (hsF n) ?_ (fun i hi ih => ?_)
      · refine V_iload 29 0 rfl dX2_heirAfter_27 rfl ?_
        refine V_iload_n 30 2 rfl rfl dX2_heirAfter_29 rfl ?_
        refine V_icmp_ge 54 33 rfl dX2_heirAfter_30 rfl (fun c30 => ?_) (fun c30 => absurd (Int32.le_refl _) c30)
        refine V_iload 56 1 rfl dX2_heirAfter_54 rfl ?_
        refine V_ret_i rfl rfl (Nat.le_refl _) (fun h => absurd h (by decide)) (Nat.le_refl _) (hq) dX2_heirAfter_56
      · cases e : itN (cHr K) i m with
        | none =>
          rw [itN_no e _ (Nat.le_of_lt hi)] at hq
          refine V_iload 29 0 rfl dX2_heirAfter_27 rfl ?_
          refine V_iload_n 30 2 rfl rfl dX2_heirAfter_29 rfl ?_
          refine V_icmp_ge 54 33 rfl dX2_heirAfter_30 rfl (fun c30 => absurd c30 (nI_ge hi (by omega))) (fun c30 => ?_)
          refine V_iload 35 1 rfl dX2_heirAfter_33 rfl ?_
          refine V_iconst 36 (-1) rfl dX2_heirAfter_35 rfl ?_
          refine V_icmp_eq 54 39 rfl dX2_heirAfter_36 rfl (fun c36 => ?_) (fun c36 => absurd rfl c36)
          refine V_iload 56 1 rfl dX2_heirAfter_54 rfl ?_
          refine V_ret_i rfl rfl (Nat.le_refl _) (fun h => absurd h (by decide)) (Nat.le_refl _) (hq) dX2_heirAfter_56
        | some a =>
          have ha := itN_lt w4 hm i a e
          rw [itN, e] at ih
          refine V_iload 29 0 rfl dX2_heirAfter_27 rfl ?_
          refine V_iload_n 30 2 rfl rfl dX2_heirAfter_29 rfl ?_
          refine V_icmp_ge 54 33 rfl dX2_heirAfter_30 rfl (fun c30 => absurd c30 (nI_ge hi (by omega))) (fun c30 => ?_)
          refine V_iload 35 1 rfl dX2_heirAfter_33 rfl ?_
          refine V_iconst 36 (-1) rfl dX2_heirAfter_35 rfl ?_
          refine V_icmp_eq 54 39 rfl dX2_heirAfter_36 rfl (fun c36 => absurd c36 (nI_ne (by omega))) (fun c36 => ?_)
          refine V_aload_n 40 3 rfl _ rfl rfl dX2_heirAfter_39 rfl ?_
          refine V_getR 43 51 2 5 57 (hRK 51 5 (by decide) (by decide) (by decide)) flX2_27 rfl rfl rfl (by decide) dX2_heirAfter_40 rfl ?_
          refine V_iload 45 1 rfl dX2_heirAfter_43 rfl ?_
          refine V_ialdN 46 57 6 a (oI (cHr K a)) (hC.2.2.2.2.2.2.2.2 a ha) (by omega) (by decide) rfl (by decide) dX2_heirAfter_45 rfl ?_
          refine V_istore 48 [(4, .int (oI (cHr K a))), (5, .int (nI i)), (3, .int (nI (hsF n))), (0, rf G 51)] (by decide) rfl dX2_heirAfter_46 rfl ?_
          refine V_iinc 51 1 rfl (nI (i + 1)) [(5, .int (nI (i + 1))), (4, .int (oI (cHr K a))), (3, .int (nI (hsF n))), (0, rf G 51)] (nI_1 _) (by decide) rfl dX2_heirAfter_48 rfl ?_
          refine V_goto 27 rfl dX2_heirAfter_51 ?_
          exact V_lv [0, 1, 2, 3] rfl ih
    show V _ _ _ _ _ _ _ _ [(0, rf G 51), (1, .int (nI m)), (2, .int (nI n))] [] _ _ _ _ _
    by_cases h6 : n < 6
    · have e : hsF n = n := if_pos h6
      rw [e] at L
      refine V_iload_n 1 2 rfl rfl dX2_heirAfter_0 rfl ?_
      refine V_bipush 3 (6) rfl dX2_heirAfter_1 rfl ?_
      refine V_icmp_ge 10 6 rfl dX2_heirAfter_3 rfl (fun c3 => absurd c3 (nI_ge h6 (by decide))) (fun c3 => ?_)
      refine V_iload_n 7 2 rfl rfl dX2_heirAfter_6 rfl ?_
      refine V_goto 20 rfl dX2_heirAfter_7 ?_
      refine V_istore_n 21 [(3, .int (nI n)), (0, rf G 51), (1, .int (nI m)), (2, .int (nI n))] (by decide) rfl rfl dX2_heirAfter_20 rfl ?_
      refine V_iload_n 22 2 rfl rfl dX2_heirAfter_21 rfl ?_
      refine V_istore 24 [(4, .int (nI m)), (3, .int (nI n)), (0, rf G 51), (1, .int (nI m)), (2, .int (nI n))] (by decide) rfl dX2_heirAfter_22 rfl ?_
      refine V_iconst 25 (0) rfl dX2_heirAfter_24 rfl ?_
      refine V_istore 27 [(5, .int 0), (4, .int (nI m)), (3, .int (nI n)), (0, rf G 51), (1, .int (nI m)), (2, .int (nI n))] (by decide) rfl dX2_heirAfter_25 rfl ?_
      exact V_lv [0, 1, 2, 3] rfl (L 0 (Nat.zero_le _))
    · have e : hsF n = 6 + (n - 6) % 60 := if_neg h6
      have e2 : nI n - 6 = nI (n - 6) := pk_sub (a := n) (b := 6) (by omega)
      have e3 : nI (n - 6) - nI (n - 6) / 60 * 60 = nI ((n - 6) % 60) := pk_rem (d := 60) (by omega) (by decide) (by decide)
      have e4 : (6 : Int32) + nI ((n - 6) % 60) = nI (6 + (n - 6) % 60) := nI_add 6 _
      rw [e] at L
      refine V_iload_n 1 2 rfl rfl dX2_heirAfter_0 rfl ?_
      refine V_bipush 3 (6) rfl dX2_heirAfter_1 rfl ?_
      refine V_icmp_ge 10 6 rfl dX2_heirAfter_3 rfl (fun c3 => ?_) (fun c3 => absurd (nI_le (show 6 ≤ n by omega) (by omega)) c3)
      refine V_bipush 12 (6) rfl dX2_heirAfter_10 rfl ?_
      refine V_iload_n 13 2 rfl rfl dX2_heirAfter_12 rfl ?_
      refine V_bipush 15 (6) rfl dX2_heirAfter_13 rfl ?_
      refine V_isub 16 dX2_heirAfter_15 rfl ?_
      refine V_rw (e2) ?_
      refine V_bipush 18 (60) rfl dX2_heirAfter_16 rfl ?_
      refine V_irem 19 (by decide) dX2_heirAfter_18 rfl ?_
      refine V_rw (e3) ?_
      refine V_iadd 20 dX2_heirAfter_19 rfl ?_
      refine V_rw (e4) ?_
      refine V_istore_n 21 [(3, .int (nI (6 + (n - 6) % 60))), (0, rf G 51), (1, .int (nI m)), (2, .int (nI n))] (by decide) rfl rfl dX2_heirAfter_20 rfl ?_
      refine V_iload_n 22 2 rfl rfl dX2_heirAfter_21 rfl ?_
      refine V_istore 24 [(4, .int (nI m)), (3, .int (nI (6 + (n - 6) % 60))), (0, rf G 51), (1, .int (nI m)), (2, .int (nI n))] (by decide) rfl dX2_heirAfter_22 rfl ?_
      refine V_iconst 25 (0) rfl dX2_heirAfter_24 rfl ?_
      refine V_istore 27 [(5, .int 0), (4, .int (nI m)), (3, .int (nI (6 + (n - 6) % 60))), (0, rf G 51), (1, .int (nI m)), (2, .int (nI n))] (by decide) rfl dX2_heirAfter_25 rfl ?_
      exact V_lv [0, 1, 2, 3] rfl (L 0 (Nat.zero_le _))
set_option maxHeartbeats 4000000 in
theorem c_X2_stepsBetween {G : Gx} {d : Nat} {I : FI} {R : FR} {J : FJ} {Q : Po} (hRK : RK R) {K : CO} {c : Nat} (hc : c = 4 ∨ c = 51) (hC : CoastC I c K) (hW : WK K) {m t : Nat} (hm : m < cM K) (ht : t < cM K) (hq : Q (.inl (some (.int (stF (cHr K) t 6 0 (some m))))) 103 I R J) : Cc G mX2_stepsBetween d 0 0 [rf G c, .int (nI m), .int (nI t)] 103 I R J Q := by
  obtain ⟨w1, w2, w3, w4, w5, w6, w7⟩ := hW
  rcases hc with rfl | rfl
  · have L : ∀ i, i ≤ 6 → ∀ x : Option Nat, (∀ j, x = some j → j < cM K) → Q (.inl (some (.int (stF (cHr K) t (6 - i) i x)))) 103 I R J → V G mX2_stepsBetween d 0 0 0 0 5 [(4, .int (nI i)), (3, .int (oI x)), (0, rf G 4), (2, .int (nI t))] [] 103 I R J Q := by
      refine loopd 6 (fun x hx hq => ?_) (fun i hi ih x hx hq => ?_)
      · refine V_iload 7 0 rfl dX2_stepsBetween_5 rfl ?_
        refine V_bipush 9 (6) rfl dX2_stepsBetween_7 rfl ?_
        refine V_icmp_ge 38 12 rfl dX2_stepsBetween_9 rfl (fun c9 => ?_) (fun c9 => absurd (by decide) c9)
        refine V_iconst 39 (-1) rfl dX2_stepsBetween_38 rfl ?_
        refine V_ret_i rfl rfl (Nat.le_refl _) (fun h => absurd h (by decide)) (Nat.le_refl _) (hq) dX2_stepsBetween_39
      · rw [show 6 - i = (6 - (i + 1)) + 1 by omega] at hq
        cases x with
        | none =>
          refine V_iload 7 0 rfl dX2_stepsBetween_5 rfl ?_
          refine V_bipush 9 (6) rfl dX2_stepsBetween_7 rfl ?_
          refine V_icmp_ge 38 12 rfl dX2_stepsBetween_9 rfl (fun c9 => absurd c9 (nI_ge hi (by decide))) (fun c9 => ?_)
          refine V_iload_n 13 1 rfl rfl dX2_stepsBetween_12 rfl ?_
          refine V_iconst 14 (-1) rfl dX2_stepsBetween_13 rfl ?_
          refine V_icmp_eq 38 17 rfl dX2_stepsBetween_14 rfl (fun c14 => ?_) (fun c14 => absurd rfl c14)
          refine V_iconst 39 (-1) rfl dX2_stepsBetween_38 rfl ?_
          refine V_ret_i rfl rfl (Nat.le_refl _) (fun h => absurd h (by decide)) (Nat.le_refl _) (hq) dX2_stepsBetween_39
        | some a =>
          have ha := hx a rfl
          refine V_iload 7 0 rfl dX2_stepsBetween_5 rfl ?_
          refine V_bipush 9 (6) rfl dX2_stepsBetween_7 rfl ?_
          refine V_icmp_ge 38 12 rfl dX2_stepsBetween_9 rfl (fun c9 => absurd c9 (nI_ge hi (by decide))) (fun c9 => ?_)
          refine V_iload_n 13 1 rfl rfl dX2_stepsBetween_12 rfl ?_
          refine V_iconst 14 (-1) rfl dX2_stepsBetween_13 rfl ?_
          refine V_icmp_eq 38 17 rfl dX2_stepsBetween_14 rfl (fun c14 => absurd c14 (nI_ne (by omega))) (fun c14 => ?_)
          refine V_iload_n 18 1 rfl rfl dX2_stepsBetween_17 rfl ?_
          refine V_iload_n 19 3 rfl rfl dX2_stepsBetween_18 rfl ?_
          refine V_icmp_ne 25 22 rfl dX2_stepsBetween_19 rfl (fun c19 => ?_) (fun c19 => ?_)
          · refine V_aload_n 26 2 rfl _ rfl rfl dX2_stepsBetween_25 rfl ?_
            refine V_getR 29 4 2 5 10 (hRK 4 5 (by decide) (by decide) (by decide)) flX2_27 rfl rfl rfl (by decide) dX2_stepsBetween_26 rfl ?_
            refine V_iload_n 30 1 rfl rfl dX2_stepsBetween_29 rfl ?_
            refine V_ialdN 31 10 6 a (oI (cHr K a)) (hC.2.2.2.2.2.2.2.2 a ha) (by omega) (by decide) rfl (by decide) dX2_stepsBetween_30 rfl ?_
            refine V_istore_n 32 [(3, .int (oI (cHr K a))), (4, .int (nI i)), (0, rf G 4), (2, .int (nI t))] (by decide) rfl rfl dX2_stepsBetween_31 rfl ?_
            refine V_iinc 35 1 rfl (nI (i + 1)) [(4, .int (nI (i + 1))), (3, .int (oI (cHr K a))), (0, rf G 4), (2, .int (nI t))] (nI_1 _) (by decide) rfl dX2_stepsBetween_32 rfl ?_
            refine V_goto 5 rfl dX2_stepsBetween_35 ?_
            rw [stF, if_neg (fun q => c19 (by rw [q]; rfl))] at hq
            exact V_lv [0, 1, 2, 3] rfl (ih (cHr K a) (w4 a) hq)
          · refine V_iload 24 0 rfl dX2_stepsBetween_22 rfl ?_
            refine V_ret_i rfl rfl (Nat.le_refl _) (fun h => absurd h (by decide)) (Nat.le_refl _) (by rw [stF, if_pos ((nI_eq (by omega) (by omega)).mp c19)] at hq; exact hq) dX2_stepsBetween_24
    show V _ _ _ _ _ _ _ _ [(0, rf G 4), (1, .int (nI m)), (2, .int (nI t))] [] _ _ _ _ _
    refine V_iload_n 1 1 rfl rfl dX2_stepsBetween_0 rfl ?_
    refine V_istore_n 2 [(3, .int (nI m)), (0, rf G 4), (1, .int (nI m)), (2, .int (nI t))] (by decide) rfl rfl dX2_stepsBetween_1 rfl ?_
    refine V_iconst 3 (0) rfl dX2_stepsBetween_2 rfl ?_
    refine V_istore 5 [(4, .int 0), (3, .int (nI m)), (0, rf G 4), (1, .int (nI m)), (2, .int (nI t))] (by decide) rfl dX2_stepsBetween_3 rfl ?_
    exact V_lv [0, 1, 2, 4] rfl (L 0 (by decide) (some m) (fun j e => by cases e; exact hm) hq)
  · have L : ∀ i, i ≤ 6 → ∀ x : Option Nat, (∀ j, x = some j → j < cM K) → Q (.inl (some (.int (stF (cHr K) t (6 - i) i x)))) 103 I R J → V G mX2_stepsBetween d 0 0 0 0 5 [(4, .int (nI i)), (3, .int (oI x)), (0, rf G 51), (2, .int (nI t))] [] 103 I R J Q := by
      refine loopd 6 (fun x hx hq => ?_) (fun i hi ih x hx hq => ?_)
      · refine V_iload 7 0 rfl dX2_stepsBetween_5 rfl ?_
        refine V_bipush 9 (6) rfl dX2_stepsBetween_7 rfl ?_
        refine V_icmp_ge 38 12 rfl dX2_stepsBetween_9 rfl (fun c9 => ?_) (fun c9 => absurd (by decide) c9)
        refine V_iconst 39 (-1) rfl dX2_stepsBetween_38 rfl ?_
        refine V_ret_i rfl rfl (Nat.le_refl _) (fun h => absurd h (by decide)) (Nat.le_refl _) (hq) dX2_stepsBetween_39
      · rw [show 6 - i = (6 - (i + 1)) + 1 by omega] at hq
        cases x with
        | none =>
          refine V_iload 7 0 rfl dX2_stepsBetween_5 rfl ?_
          refine V_bipush 9 (6) rfl dX2_stepsBetween_7 rfl ?_
          refine V_icmp_ge 38 12 rfl dX2_stepsBetween_9 rfl (fun c9 => absurd c9 (nI_ge hi (by decide))) (fun c9 => ?_)
          refine V_iload_n 13 1 rfl rfl dX2_stepsBetween_12 rfl ?_
          refine V_iconst 14 (-1) rfl dX2_stepsBetween_13 rfl ?_
          refine V_icmp_eq 38 17 rfl dX2_stepsBetween_14 rfl (fun c14 => ?_) (fun c14 => absurd rfl c14)
          refine V_iconst 39 (-1) rfl dX2_stepsBetween_38 rfl ?_
          refine V_ret_i rfl rfl (Nat.le_refl _) (fun h => absurd h (by decide)) (Nat.le_refl _) (hq) dX2_stepsBetween_39
        | some a =>
          have ha := hx a rfl
          refine V_iload 7 0 rfl dX2_stepsBetween_5 rfl ?_
          refine V_bipush 9 (6) rfl dX2_stepsBetween_7 rfl ?_
          refine V_icmp_ge 38 12 rfl dX2_stepsBetween_9 rfl (fun c9 => absurd c9 (nI_ge hi (by decide))) (fun c9 => ?_)
          refine V_iload_n 13 1 rfl rfl dX2_stepsBetween_12 rfl ?_
          refine V_iconst 14 (-1) rfl dX2_stepsBetween_13 rfl ?_
          refine V_icmp_eq 38 17 rfl dX2_stepsBetween_14 rfl (fun c14 => absurd c14 (nI_ne (by omega))) (fun c14 => ?_)
          refine V_iload_n 18 1 rfl rfl dX2_stepsBetween_17 rfl ?_
          refine V_iload_n 19 3 rfl rfl dX2_stepsBetween_18 rfl ?_
          refine V_icmp_ne 25 22 rfl dX2_stepsBetween_19 rfl (fun c19 => ?_) (fun c19 => ?_)
          · refine V_aload_n 26 2 rfl _ rfl rfl dX2_stepsBetween_25 rfl ?_
            refine V_getR 29 51 2 5 57 (hRK 51 5 (by decide) (by decide) (by decide)) flX2_27 rfl rfl rfl (by decide) dX2_stepsBetween_26 rfl ?_
            refine V_iload_n 30 1 rfl rfl dX2_stepsBetween_29 rfl ?_
            refine V_ialdN 31 57 6 a (oI (cHr K a)) (hC.2.2.2.2.2.2.2.2 a ha) (by omega) (by decide) rfl (by decide) dX2_stepsBetween_30 rfl ?_
            refine V_istore_n 32 [(3, .int (oI (cHr K a))), (4, .int (nI i)), (0, rf G 51), (2, .int (nI t))] (by decide) rfl rfl dX2_stepsBetween_31 rfl ?_
            refine V_iinc 35 1 rfl (nI (i + 1)) [(4, .int (nI (i + 1))), (3, .int (oI (cHr K a))), (0, rf G 51), (2, .int (nI t))] (nI_1 _) (by decide) rfl dX2_stepsBetween_32 rfl ?_
            refine V_goto 5 rfl dX2_stepsBetween_35 ?_
            rw [stF, if_neg (fun q => c19 (by rw [q]; rfl))] at hq
            exact V_lv [0, 1, 2, 3] rfl (ih (cHr K a) (w4 a) hq)
          · refine V_iload 24 0 rfl dX2_stepsBetween_22 rfl ?_
            refine V_ret_i rfl rfl (Nat.le_refl _) (fun h => absurd h (by decide)) (Nat.le_refl _) (by rw [stF, if_pos ((nI_eq (by omega) (by omega)).mp c19)] at hq; exact hq) dX2_stepsBetween_24
    show V _ _ _ _ _ _ _ _ [(0, rf G 51), (1, .int (nI m)), (2, .int (nI t))] [] _ _ _ _ _
    refine V_iload_n 1 1 rfl rfl dX2_stepsBetween_0 rfl ?_
    refine V_istore_n 2 [(3, .int (nI m)), (0, rf G 51), (1, .int (nI m)), (2, .int (nI t))] (by decide) rfl rfl dX2_stepsBetween_1 rfl ?_
    refine V_iconst 3 (0) rfl dX2_stepsBetween_2 rfl ?_
    refine V_istore 5 [(4, .int 0), (3, .int (nI m)), (0, rf G 51), (1, .int (nI m)), (2, .int (nI t))] (by decide) rfl dX2_stepsBetween_3 rfl ?_
    exact V_lv [0, 1, 2, 4] rfl (L 0 (by decide) (some m) (fun j e => by cases e; exact hm) hq)
