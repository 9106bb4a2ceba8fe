/-! ===== the reference: ahead, doom, season, span, line, meets, row, from, best, two ===== -/
theorem dmF_0 {K : CO} {f : DV → Int32} {m : Nat} {E : DV} (h : E (30 + m) = 0) : ∀ n k, dmF K f m n k E = nI k := by
  intro n k
  cases n <;> rw [dmF, if_pos h]
theorem dm_s {K : CO} {f : DV → Int32} {m i : Nat} {E : DV} (hi : i < 201) (h : ¬ E (30 + m) = 0) : (if i = 201 then (-1 : Int32) else dmF K f m (200 - i) i E) = if i + 1 = 201 then -1 else dmF K f m (200 - (i + 1)) (i + 1) (passD K f E) := by
  rw [if_neg (show ¬ i = 201 by omega)]
  by_cases c : i + 1 = 201
  · rw [if_pos c, show 200 - i = 0 by omega, dmF, if_neg h]
  · rw [if_neg c, show 200 - i = (200 - (i + 1)) + 1 by omega, dmF, if_neg h]
def FrG (I I' : FI) : Prop := (∀ a, a ≠ 69 → a ≠ 84 → a ≠ 85 → a ≠ 89 → a ≠ 91 → I' a = I a) ∧ ∀ j, j ≠ 54 → I' 69 j = I 69 j
theorem FrG.tr {I I1 I2 : FI} (h : FrG I I1) (h2 : FrG I1 I2) : FrG I I2 := ⟨fun a a1 a2 a3 a4 a5 => (h2.1 a a1 a2 a3 a4 a5).trans (h.1 a a1 a2 a3 a4 a5), fun j hj => (h2.2 j hj).trans (h.2 j hj)⟩
theorem FrG.S {I I' : FI} (h : FrS I I') : FrG I I' := ⟨fun a _ q2 q3 q4 q5 => h a q2 q3 q4 q5, fun j _ => by rw [h 69 (by decide) (by decide) (by decide) (by decide)]⟩
theorem FrM.G {I I1 I2 : FI} (h : FrM I I1) (h2 : FrG I1 I2) : FrM I I2 := ⟨fun a a1 a2 a3 a4 a5 a6 => (h2.1 a a1 a2 a3 a4 a5).trans (h.1 a a1 a2 a3 a4 a5 a6), (h2.2 0 (by decide)).trans h.2.1, fun j h0 hj => (h2.2 j hj).trans (h.2.2 j h0 hj)⟩
theorem RM.frG {I I' : FI} {R : FR} {K : CO} {f : DV → Int32} {D : DV} (h : RM I R K f D) (hf : FrG I I') : RM I' R K f D := by
  obtain ⟨h1, h2, h3, h4, h5, h6, h7⟩ := h
  obtain ⟨a1, a3⟩ := hf
  refine ⟨h1, h2.fr (a3 21 (by decide)) (a3 22 (by decide)) (a3 23 (by decide)) (fun a q1 q2 => a1 a (by omega) (by omega) (by omega) (by omega) (by omega)), h3, fun k hk => by rw [a1 88 (by decide) (by decide) (by decide) (by decide) (by decide)]; exact h4 k hk, h5, h6.fr (a3 30 (by decide)) (a1 82 (by decide) (by decide) (by decide) (by decide) (by decide)) (a1 83 (by decide) (by decide) (by decide) (by decide) (by decide)), h7⟩
theorem ckW2_n {x y lo hi lo' hi' : Int32} {o : Oc} (h : ¬ (lo ≤ x ∧ x ≤ hi ∧ lo' ≤ y ∧ y ≤ hi')) : ckW x lo hi (ckW y lo' hi' o) = .inr 1 := by
  by_cases c : lo ≤ x ∧ x ≤ hi
  · rw [ckW_y c.1 c.2, ckW_n (fun q => h ⟨c.1, c.2, q.1, q.2⟩)]
  · exact ckW_n c
def spG (K : CO) (f : DV → Int32) (q : Int32) (D : DV) (sd : Int32) (hr : Nat) : Nat → Int32 × Int32 × Int32
  | 0 => (-1, 0, 0)
  | n + 1 => (if (spG K f q D sd hr n).1 = -1 ∨ sumF (spI K f q D sd hr n) 24 6 < (spG K f q D sd hr n).1 then sumF (spI K f q D sd hr n) 24 6 else (spG K f q D sd hr n).1, if (spG K f q D sd hr n).2.1 < sumF (spI K f q D sd hr n) 24 6 then sumF (spI K f q D sd hr n) 24 6 else (spG K f q D sd hr n).2.1, (spG K f q D sd hr n).2.2 + (if livB (spI K f q D sd hr n) 6 = livB D 6 then 1 else 0))
theorem Fsh.sum {D : DV} (h : Fsh D) : ∃ v, v ≤ 5994 ∧ sumF D 24 6 = nI v := by
  obtain ⟨a, l, h1, h2, h3⟩ := h
  refine ⟨a 0 + a 1 + a 2 + a 3 + a 4 + a 5, by omega, ?_⟩
  simp only [sumF, h1 0 (by decide), h1 1 (by decide), h1 2 (by decide), h1 3 (by decide), h1 4 (by decide), h1 5 (by decide), nI_z, nI_add]
theorem sp_eq {K : CO} {f : DV → Int32} {q : Int32} {D : DV} {sd : Int32} {hr : Nat} (hW : WK K) (hf : fR f) (h : DI K D) : ∀ n, (spG K f q D sd hr n).2 = (spF K f q D sd hr n).2 ∧ ((n = 0 ∧ (spG K f q D sd hr n).1 = -1 ∧ (spF K f q D sd hr n).1 = 2147483647) ∨ (0 < n ∧ ∃ v, v ≤ 5994 ∧ (spG K f q D sd hr n).1 = nI v ∧ (spF K f q D sd hr n).1 = nI v)) := by
  intro n
  induction n with
  | zero => exact ⟨rfl, Or.inl ⟨rfl, rfl, rfl⟩⟩
  | succ n ih =>
    obtain ⟨e1, e2⟩ := ih
    obtain ⟨v, hv, ev⟩ := (DI_se (q := q) (sd := sd + nI n) hW hf h hr).2.2.2.2.1.sum
    have ev : sumF (spI K f q D sd hr n) 24 6 = nI v := ev
    refine ⟨?_, Or.inr ⟨by omega, ?_⟩⟩
    · rw [spG, spF]
      show (_, _) = (_, _)
      rw [e1]
    · rw [spG, spF]
      dsimp only
      rw [ev]
      rcases e2 with ⟨-, g1, g2⟩ | ⟨-, w, hw, g1, g2⟩
      · rw [g1, g2, if_pos (Or.inl rfl), if_pos (show nI v < 2147483647 from nI_lt (b := 2147483647) (by omega) (by decide))]
        exact ⟨v, hv, rfl, rfl⟩
      · rw [g1, g2]
        by_cases c : nI v < nI w
        · rw [if_pos (Or.inr c), if_pos c]; exact ⟨v, hv, rfl, rfl⟩
        · rw [if_neg (fun h => h.elim (nI_ne (by omega)) c), if_neg c]; exact ⟨w, hw, rfl, rfl⟩
theorem spO_eq {K : CO} {f : DV → Int32} {q : Int32} {D : DV} {sd : Int32} {hr n j : Nat} (hW : WK K) (hf : fR f) (h : DI K D) (hn : 0 < n) : spO (spF K f q D sd hr n) j = spO (spG K f q D sd hr n) j := by
  obtain ⟨e1, e2⟩ := sp_eq (q := q) (sd := sd) (hr := hr) hW hf h n
  rcases e2 with ⟨c, -⟩ | ⟨-, v, -, g1, g2⟩
  · exact absurd c (by omega)
  · have e : spF K f q D sd hr n = spG K f q D sd hr n := Prod.ext (g2.trans g1.symm) e1.symm
    rw [e]
theorem mtM_go {hr : Nat → Option Nat} {m o k : Nat} (h1 : ¬ stF hr k 6 0 (some m) = -1) (h2 : ¬ stF hr k 6 0 (some o) = -1) (h3 : (mtF hr m o k).1 = -1 ∨ stF hr k 6 0 (some m) + stF hr k 6 0 (some o) < (mtF hr m o k).2) : mtF hr m o (k + 1) = (nI k, stF hr k 6 0 (some m) + stF hr k 6 0 (some o)) := by
  rw [mtF]
  refine if_neg (fun h => ?_)
  rcases h with h | h | ⟨h, h4⟩
  · exact h1 h
  · exact h2 h
  · exact h3.elim h (fun q => absurd q (Int32.not_lt.mpr h4))
theorem mtM_no {hr : Nat → Option Nat} {m o k : Nat} (h : stF hr k 6 0 (some m) = -1 ∨ stF hr k 6 0 (some o) = -1 ∨ (¬ (mtF hr m o k).1 = -1 ∧ ¬ stF hr k 6 0 (some m) + stF hr k 6 0 (some o) < (mtF hr m o k).2)) : mtF hr m o (k + 1) = mtF hr m o k := by
  rw [mtF]
  exact if_pos (h.imp id (fun h => h.imp id (fun h => ⟨h.1, Int32.not_lt.mp h.2⟩)))
def pcN (s : Nat) : Nat := s % 2 + s / 2 % 2 + s / 4 % 2 + s / 8 % 2 + s / 16 % 2 + s / 32 % 2
theorem rw_bit : ∀ s, s < 64 → ∀ a, a < 6 → (nI s >>> (nI a &&& 31)) &&& 1 = 0 → nI s ||| ((1 : Int32) <<< (nI a &&& 31)) = nI (s + 2 ^ a) ∧ s + 2 ^ a < 64 ∧ pcN (s + 2 ^ a) = pcN s + 1 := by decide +kernel
theorem rw_one : ∀ a, a < 6 → (1 : Int32) <<< (nI a &&& 31) = nI (2 ^ a) ∧ 2 ^ a < 64 ∧ pcN (2 ^ a) = 1 := by decide +kernel
theorem bstF_to {D : DV} {n : Nat} (hB : ∀ m, n ≤ m → m < 6 → D (24 + m) = 0) : ∀ k, n ≤ k → k ≤ 6 → bstF D k = bstF D n := by
  intro k
  induction k with
  | zero => intro h _; rw [show n = 0 by omega]
  | succ k ih =>
    intro h1 h2
    by_cases c : n = k + 1
    · rw [c]
    · rw [bstF, hB k (by omega) (by omega)]
      have e := ih (by omega) (by omega)
      rw [if_neg, e]
      rw [e]
      rcases bstF_is D n with ⟨-, q⟩ | ⟨m, -, -, q, q2⟩
      · rw [q]; exact Int32.lt_irrefl
      · rw [q]; exact Int32.lt_asymm q2
set_option maxHeartbeats 8000000 in
theorem c_X11_ahead {G : Gx} {d : Nat} {I : FI} {R : FR} {J : FJ} {Q : Po} {K : CO} {f : DV → Int32} {D : DV} (hX : RM I R K f D) {x y : Int32}  (hq : HoM I R J Q 1 (ckW x 0 99 (ckW y 0 2 (.inl (outF (hrsD K f D x.toNatClampNeg) y.toNatClampNeg))))) : Cc G mX11_ahead (d + 60) 0 0 [rf G 69, .int x, .int y] 103 I R J Q := by
  obtain ⟨I0, hI0⟩ : ∃ I0, I0 = up2 I 69 0 0 := ⟨_, rfl⟩
  have hz := FrM.z hI0
  obtain ⟨hRM, hK, hW, hN, hI, hL, hfR⟩ := hX.fr hz
  have ht : I0 69 0 = 0 := hz.2.1
  have h8 := hW.1
  have hg6 := hW.2.1
  have h6 := hW.2.2.1
  have hWD := hI.1
  have hFl := hI.1.1
  have hB := hI.2.2.1
  have hSt := hI.2.1
  show V _ _ _ _ _ _ _ _ [(0, rf G 69), (1, .int x), (2, .int y)] [] _ _ _ _ _
  refine V_aload_n 1 0 rfl _ rfl rfl dX11_ahead_0 rfl ?_
  refine V_iconst 2 (0) rfl dX11_ahead_1 rfl ?_
  refine V_putI 5 69 11 0 flX11_3 rfl rfl rfl (by decide) rfl dX11_ahead_2 rfl ?_
  rw [← hI0]
  refine V_aload_n 6 0 rfl _ rfl rfl dX11_ahead_5 rfl ?_
  refine V_iload_n 7 1 rfl rfl dX11_ahead_6 rfl ?_
  refine V_iconst 8 (0) rfl dX11_ahead_7 rfl ?_
  refine V_bipush 10 (99) rfl dX11_ahead_8 rfl ?_
  refine V_callS (K' := 0) (S' := 0) 13 3 [.int x, .int 0, .int 99] mkX11_within lkX11_383 rfl (Nat.le_of_ble_eq_true rfl) (Nat.le_of_ble_eq_true rfl) (Nat.le_of_ble_eq_true rfl) (Nat.le_of_ble_eq_true rfl) rfl rfl dX11_ahead_10 rfl (c_X11_within (fun a10 b10 => ?_) (fun a10 => ?_))
  · refine Kq_i (k' := 0) (sl' := 0) rfl rfl ?_
    rw [ckW_y a10 b10] at hq
    obtain ⟨n, hn, rfl⟩ := in_nI (n := 99) (by decide) a10 b10
    refine V_if_eq 29 16 rfl dX11_ahead_13 rfl (fun c13 => absurd c13 (by decide)) (fun c13 => ?_)
    refine V_iload_n 17 2 rfl rfl dX11_ahead_16 rfl ?_
    refine V_iconst 18 (0) rfl dX11_ahead_17 rfl ?_
    refine V_iconst 19 (2) rfl dX11_ahead_18 rfl ?_
    refine V_callS (K' := 0) (S' := 0) 22 3 [.int y, .int 0, .int 2] mkX11_within lkX11_383 rfl (Nat.le_of_ble_eq_true rfl) (Nat.le_of_ble_eq_true rfl) (Nat.le_of_ble_eq_true rfl) (Nat.le_of_ble_eq_true rfl) rfl rfl dX11_ahead_19 rfl (c_X11_within (fun a19 b19 => ?_) (fun a19 => ?_))
    · refine Kq_i (k' := 0) (sl' := 0) rfl rfl ?_
      rw [ckW_y a19 b19] at hq
      obtain ⟨j, hj, rfl⟩ := in_nI (n := 2) (by decide) a19 b19
      refine V_if_eq 29 25 rfl dX11_ahead_22 rfl (fun c22 => absurd c22 (by decide)) (fun c22 => ?_)
      refine V_iconst 26 (1) rfl dX11_ahead_25 rfl ?_
      refine V_goto 30 rfl dX11_ahead_26 ?_
      refine V_iconst 31 (1) rfl dX11_ahead_30 rfl ?_
      refine V_iconst 32 (1) rfl dX11_ahead_31 rfl ?_
      refine V_callV (K' := 0) (S' := 0) 35 69 11 3 [.int 1, .int 1, .int 1] mkX11_may lkX11_216 (by decide) rfl rfl (by decide) rfl (Nat.le_of_ble_eq_true rfl) (Nat.le_of_ble_eq_true rfl) (Nat.le_of_ble_eq_true rfl) (Nat.le_of_ble_eq_true rfl) rfl rfl dX11_ahead_32 rfl (c_X11_may (cd := 1) (kd := 1) hRM (by decide) (by decide) (by decide) ht (fun _ => ?_) (fun e => absurd e (by decide)))
      refine Kq_i (k' := 0) (sl' := 0) rfl rfl ?_
      refine V_if_ne 40 38 rfl dX11_ahead_35 rfl (fun c35 => ?_) (fun c35 => absurd c35 (by decide))
      refine V_aload_n 41 0 rfl _ rfl rfl dX11_ahead_40 rfl ?_
      refine V_callV (K' := 0) (S' := 0) 44 69 11 0 [] mkX11_take lkX11_323 (by decide) rfl rfl (by decide) rfl (Nat.le_of_ble_eq_true rfl) (Nat.le_of_ble_eq_true rfl) (Nat.le_of_ble_eq_true rfl) (Nat.le_of_ble_eq_true rfl) rfl rfl dX11_ahead_41 rfl (c_X11_take hRM (fun I1 hT1 hT2 => ?_))
      refine Kq_v (k' := 0) (sl' := 0) rfl rfl ?_
      have hz1 := hz.go (fun a _ _ h3 _ _ => hT1 a h3)
      have hM : DayM I1 D := fun k hk => (hT2 k hk).trans (hN k hk)
      have hK1 := hK.frS (fun a _ _ h3 _ => hT1 a h3)
      have hL1 := hL.fr (I' := I1) (by rw [hT1 69 (by decide)]) (hT1 82 (by decide)) (hT1 83 (by decide))
      refine V_iconst 45 (0) rfl dX11_ahead_44 rfl ?_
      refine V_istore_n 46 [(3, .int 0), (0, rf G 69), (1, .int (nI n)), (2, .int (nI j))] (by decide) rfl rfl dX11_ahead_45 rfl ?_
      rw [nI_clamp (show n < 2 ^ 31 by omega), nI_clamp (show j < 2 ^ 31 by omega)] at hq
      have L : ∀ i, i ≤ n → ∀ I2, DayM I2 (hrsD K f D i) → FrM I I2 → V G mX11_ahead (d + 60) 0 0 0 0 46 [(3, .int (nI i)), (0, rf G 69), (1, .int (nI n)), (2, .int (nI j))] [] 103 I2 R J Q := by
        refine loopd n (fun I2 hM2 hz2 => ?_) (fun i hi ih I2 hM2 hz2 => ?_)
        · obtain ⟨-, hK2, -, -, -, hL2, -⟩ := hX.fr hz2
          have hE := DI_hrs hW hfR hI n
          refine V_iload_n 47 0 rfl rfl dX11_ahead_46 rfl ?_
          refine V_iload_n 48 2 rfl rfl dX11_ahead_47 rfl ?_
          refine V_icmp_ge 61 51 rfl dX11_ahead_48 rfl (fun c48 => ?_) (fun c48 => absurd (Int32.le_refl _) c48)
          rcases (show j = 0 ∨ j = 1 ∨ j = 2 by omega) with rfl | rfl | rfl
          · show V _ _ _ _ _ _ _ _ [(3, .int (nI n)), (0, rf G 69), (1, .int (nI n)), (2, .int 0)] [] _ _ _ _ _
            refine V_iload_n 62 3 rfl rfl dX11_ahead_61 rfl ?_
            refine V_if_ne 78 65 rfl dX11_ahead_62 rfl (fun c62 => absurd c62 (by decide)) (fun c62 => ?_)
            refine V_aload_n 66 1 rfl _ rfl rfl dX11_ahead_65 rfl ?_
            refine V_bipush 68 (24) rfl dX11_ahead_66 rfl ?_
            refine V_aload_n 69 1 rfl _ rfl rfl dX11_ahead_68 rfl ?_
            refine V_getI 72 69 11 23 (nI (cM K)) hK2.2.2.1 flX11_181 rfl rfl rfl (by decide) dX11_ahead_69 rfl ?_
            refine V_callV (K' := 0) (S' := 0) 75 69 11 2 [.int 24, .int (nI (cM K))] mkX11_sumOf lkX11_395 (by decide) rfl rfl (by decide) rfl (Nat.le_of_ble_eq_true rfl) (Nat.le_of_ble_eq_true rfl) (Nat.le_of_ble_eq_true rfl) (Nat.le_of_ble_eq_true rfl) rfl rfl dX11_ahead_72 rfl (c_X11_sumOf (b := 24) (z := cM K) hRM (by omega) hM2 ?_)
            rw [← sumF_to (b := 24) (N := 6) (fun m a b => (hE.2.2.1 m a b).2.2.2) 6 h6 (Nat.le_refl _)]
            refine Kq_i (k' := 0) (sl' := 0) rfl rfl ?_
            refine V_goto 100 rfl dX11_ahead_75 ?_
            refine V_ret_i rfl rfl (Nat.le_of_ble_eq_true rfl) (fun h => absurd h (by decide)) (Nat.le_of_ble_eq_true rfl) (hq I2 hz2) dX11_ahead_100
          · show V _ _ _ _ _ _ _ _ [(3, .int (nI n)), (0, rf G 69), (1, .int (nI n)), (2, .int 1)] [] _ _ _ _ _
            refine V_iload_n 62 3 rfl rfl dX11_ahead_61 rfl ?_
            refine V_if_ne 78 65 rfl dX11_ahead_62 rfl (fun c62 => ?_) (fun c62 => absurd c62 (by decide))
            refine V_iload_n 79 3 rfl rfl dX11_ahead_78 rfl ?_
            refine V_iconst 80 (1) rfl dX11_ahead_79 rfl ?_
            refine V_icmp_ne 90 83 rfl dX11_ahead_80 rfl (fun c80 => absurd c80 (by decide)) (fun c80 => ?_)
            refine V_aload_n 84 1 rfl _ rfl rfl dX11_ahead_83 rfl ?_
            refine V_callV (K' := 0) (S' := 0) 87 69 11 0 [] mkX11_livingNow lkX11_386 (by decide) rfl rfl (by decide) rfl (Nat.le_of_ble_eq_true rfl) (Nat.le_of_ble_eq_true rfl) (Nat.le_of_ble_eq_true rfl) (Nat.le_of_ble_eq_true rfl) rfl rfl dX11_ahead_84 rfl (c_X11_livingNow hRM hK2 h6 hM2 ?_)
            rw [← livB_to (fun m a b => (hE.2.2.1 m a b).2.2.1) 6 h6 (Nat.le_refl _)]
            refine Kq_i (k' := 0) (sl' := 0) rfl rfl ?_
            refine V_goto 100 rfl dX11_ahead_87 ?_
            refine V_ret_i rfl rfl (Nat.le_of_ble_eq_true rfl) (fun h => absurd h (by decide)) (Nat.le_of_ble_eq_true rfl) (hq I2 hz2) dX11_ahead_100
          · show V _ _ _ _ _ _ _ _ [(3, .int (nI n)), (0, rf G 69), (1, .int (nI n)), (2, .int 2)] [] _ _ _ _ _
            refine V_iload_n 62 3 rfl rfl dX11_ahead_61 rfl ?_
            refine V_if_ne 78 65 rfl dX11_ahead_62 rfl (fun c62 => ?_) (fun c62 => absurd c62 (by decide))
            refine V_iload_n 79 3 rfl rfl dX11_ahead_78 rfl ?_
            refine V_iconst 80 (1) rfl dX11_ahead_79 rfl ?_
            refine V_icmp_ne 90 83 rfl dX11_ahead_80 rfl (fun c80 => ?_) (fun c80 => absurd c80 (by decide))
            refine V_aload_n 91 1 rfl _ rfl rfl dX11_ahead_90 rfl ?_
            refine V_bipush 93 (44) rfl dX11_ahead_91 rfl ?_
            refine V_aload_n 94 1 rfl _ rfl rfl dX11_ahead_93 rfl ?_
            refine V_getI 97 69 11 22 (nI (cG K)) hK2.2.1 flX11_178 rfl rfl rfl (by decide) dX11_ahead_94 rfl ?_
            refine V_callV (K' := 0) (S' := 0) 100 69 11 2 [.int 44, .int (nI (cG K))] mkX11_sumOf lkX11_395 (by decide) rfl rfl (by decide) rfl (Nat.le_of_ble_eq_true rfl) (Nat.le_of_ble_eq_true rfl) (Nat.le_of_ble_eq_true rfl) (Nat.le_of_ble_eq_true rfl) rfl rfl dX11_ahead_97 rfl (c_X11_sumOf (b := 44) (z := cG K) hRM (by omega) hM2 ?_)
            rw [← sumF_to (b := 44) (N := 6) (fun m a b => hE.2.2.2.2.2 m a b) 6 hg6 (Nat.le_refl _)]
            refine Kq_i (k' := 0) (sl' := 0) rfl rfl ?_
            refine V_ret_i rfl rfl (Nat.le_of_ble_eq_true rfl) (fun h => absurd h (by decide)) (Nat.le_of_ble_eq_true rfl) (hq I2 hz2) dX11_ahead_100
        · obtain ⟨-, hK2, -, -, -, hL2, -⟩ := hX.fr hz2
          have hE := DI_hrs hW hfR hI i
          refine V_iload_n 47 0 rfl rfl dX11_ahead_46 rfl ?_
          refine V_iload_n 48 2 rfl rfl dX11_ahead_47 rfl ?_
          refine V_icmp_ge 61 51 rfl dX11_ahead_48 rfl (fun c48 => absurd c48 (nI_ge hi (by omega))) (fun c48 => ?_)
          refine V_aload_n 52 1 rfl _ rfl rfl dX11_ahead_51 rfl ?_
          refine V_callV (K' := 0) (S' := 0) 55 69 11 0 [] mkX11_passes lkX11_377 (by decide) rfl rfl (by decide) rfl (Nat.le_of_ble_eq_true rfl) (Nat.le_of_ble_eq_true rfl) (Nat.le_of_ble_eq_true rfl) (Nat.le_of_ble_eq_true rfl) rfl rfl dX11_ahead_52 rfl (c_X11_passes hRM hK2 hW hM2 hE.1 hE.2.2.1 hE.2.1 hL2 (fun I3 hM_I3 hF_I3 => ?_))
          refine Kq_v (k' := 0) (sl' := 0) rfl rfl ?_
          rw [pass_eq hW hE.2.2.2.1] at hM_I3
          refine V_iinc 58 0 rfl (nI (i + 1)) [(3, .int (nI (i + 1))), (0, rf G 69), (1, .int (nI n)), (2, .int (nI j))] (nI_1 _) (by decide) rfl dX11_ahead_55 rfl ?_
          refine V_goto 46 rfl dX11_ahead_58 ?_
          exact V_lv [0, 1, 2, 3] rfl (ih I3 hM_I3 (hz2.G (FrG.S hF_I3)))
      exact V_lv [0, 1, 2, 3] rfl (L 0 (Nat.zero_le _) I1 hM hz1)
    · refine Kq_i (k' := 0) (sl' := 0) rfl rfl ?_
      rw [ckW_n a19] at hq
      refine V_if_eq 29 25 rfl dX11_ahead_22 rfl (fun c22 => ?_) (fun c22 => absurd c22 (by decide))
      refine V_iconst 30 (0) rfl dX11_ahead_29 rfl ?_
      refine V_iconst 31 (1) rfl dX11_ahead_30 rfl ?_
      refine V_iconst 32 (1) rfl dX11_ahead_31 rfl ?_
      refine V_callV (K' := 0) (S' := 0) 35 69 11 3 [.int 0, .int 1, .int 1] mkX11_may lkX11_216 (by decide) rfl rfl (by decide) rfl (Nat.le_of_ble_eq_true rfl) (Nat.le_of_ble_eq_true rfl) (Nat.le_of_ble_eq_true rfl) (Nat.le_of_ble_eq_true rfl) rfl rfl dX11_ahead_32 rfl (c_X11_may (cd := 1) (kd := 1) hRM (by decide) (by decide) (by decide) ht (fun e => absurd rfl e) (fun _ => ?_))
      refine Kq_i (k' := 0) (sl' := 0) rfl rfl ?_
      refine V_if_ne 40 38 rfl dX11_ahead_35 rfl (fun c35 => absurd c35 (by decide)) (fun c35 => ?_)
      refine V_iconst 39 (0) rfl dX11_ahead_38 rfl ?_
      refine V_ret_i rfl rfl (Nat.le_of_ble_eq_true rfl) (fun h => absurd h (by decide)) (Nat.le_of_ble_eq_true rfl) (hq.x hI0 rfl) dX11_ahead_39
  · refine Kq_i (k' := 0) (sl' := 0) rfl rfl ?_
    rw [ckW_n a10] at hq
    refine V_if_eq 29 16 rfl dX11_ahead_13 rfl (fun c13 => ?_) (fun c13 => absurd c13 (by decide))
    refine V_iconst 30 (0) rfl dX11_ahead_29 rfl ?_
    refine V_iconst 31 (1) rfl dX11_ahead_30 rfl ?_
    refine V_iconst 32 (1) rfl dX11_ahead_31 rfl ?_
    refine V_callV (K' := 0) (S' := 0) 35 69 11 3 [.int 0, .int 1, .int 1] mkX11_may lkX11_216 (by decide) rfl rfl (by decide) rfl (Nat.le_of_ble_eq_true rfl) (Nat.le_of_ble_eq_true rfl) (Nat.le_of_ble_eq_true rfl) (Nat.le_of_ble_eq_true rfl) rfl rfl dX11_ahead_32 rfl (c_X11_may (cd := 1) (kd := 1) hRM (by decide) (by decide) (by decide) ht (fun e => absurd rfl e) (fun _ => ?_))
    refine Kq_i (k' := 0) (sl' := 0) rfl rfl ?_
    refine V_if_ne 40 38 rfl dX11_ahead_35 rfl (fun c35 => absurd c35 (by decide)) (fun c35 => ?_)
    refine V_iconst 39 (0) rfl dX11_ahead_38 rfl ?_
    refine V_ret_i rfl rfl (Nat.le_of_ble_eq_true rfl) (fun h => absurd h (by decide)) (Nat.le_of_ble_eq_true rfl) (hq.x hI0 rfl) dX11_ahead_39
set_option maxHeartbeats 8000000 in
theorem c_X11_doom {G : Gx} {d : Nat} {I : FI} {R : FR} {J : FJ} {Q : Po} {K : CO} {f : DV → Int32} {D : DV} (hX : RM I R K f D) {x : Int32}  (hq : HoM I R J Q 1 (ckN x (cM K) (.inl (dmF K f x.toNatClampNeg 200 0 D)))) : Cc G mX11_doom (d + 60) 0 0 [rf G 69, .int x] 103 I R J Q := by
  obtain ⟨I0, hI0⟩ : ∃ I0, I0 = up2 I 69 0 0 := ⟨_, rfl⟩
  have hz := FrM.z hI0
  obtain ⟨hRM, hK, hW, hN, hI, hL, hfR⟩ := hX.fr hz
  have ht : I0 69 0 = 0 := hz.2.1
  have h8 := hW.1
  have hg6 := hW.2.1
  have h6 := hW.2.2.1
  have hWD := hI.1
  have hFl := hI.1.1
  have hB := hI.2.2.1
  have hSt := hI.2.1
  show V _ _ _ _ _ _ _ _ [(0, rf G 69), (1, .int x)] [] _ _ _ _ _
  refine V_aload_n 1 0 rfl _ rfl rfl dX11_doom_0 rfl ?_
  refine V_iconst 2 (0) rfl dX11_doom_1 rfl ?_
  refine V_putI 5 69 11 0 flX11_3 rfl rfl rfl (by decide) rfl dX11_doom_2 rfl ?_
  rw [← hI0]
  refine V_aload_n 6 0 rfl _ rfl rfl dX11_doom_5 rfl ?_
  refine V_iload_n 7 1 rfl rfl dX11_doom_6 rfl ?_
  refine V_iconst 8 (1) rfl dX11_doom_7 rfl ?_
  refine V_callV (K' := 0) (S' := 0) 11 69 11 2 [.int x, .int 1] mkX11_isMan lkX11_404 (by decide) rfl rfl (by decide) rfl (Nat.le_of_ble_eq_true rfl) (Nat.le_of_ble_eq_true rfl) (Nat.le_of_ble_eq_true rfl) (Nat.le_of_ble_eq_true rfl) rfl rfl dX11_doom_8 rfl (c_X11_isMan (c := cM K) (cd := 1) hRM (by omega) hK.2.2.1 (by decide) (by decide) ht (fun i8 => ?_) (fun i8 => ?_))
  · refine Kq_i (k' := 0) (sl' := 0) rfl rfl ?_
    rw [ckN_y (by omega) i8] at hq
    obtain ⟨m, hm, rfl⟩ := i8
    refine V_if_ne 16 14 rfl dX11_doom_11 rfl (fun c11 => ?_) (fun c11 => absurd c11 (by decide))
    refine V_aload_n 17 0 rfl _ rfl rfl dX11_doom_16 rfl ?_
    refine V_callV (K' := 0) (S' := 0) 20 69 11 0 [] mkX11_take lkX11_323 (by decide) rfl rfl (by decide) rfl (Nat.le_of_ble_eq_true rfl) (Nat.le_of_ble_eq_true rfl) (Nat.le_of_ble_eq_true rfl) (Nat.le_of_ble_eq_true rfl) rfl rfl dX11_doom_17 rfl (c_X11_take hRM (fun I1 hT1 hT2 => ?_))
    refine Kq_v (k' := 0) (sl' := 0) rfl rfl ?_
    have hz1 := hz.go (fun a _ _ h3 _ _ => hT1 a h3)
    have hM : DayM I1 D := fun k hk => (hT2 k hk).trans (hN k hk)
    have hK1 := hK.frS (fun a _ _ h3 _ => hT1 a h3)
    have hL1 := hL.fr (I' := I1) (by rw [hT1 69 (by decide)]) (hT1 82 (by decide)) (hT1 83 (by decide))
    refine V_iconst 21 (0) rfl dX11_doom_20 rfl ?_
    refine V_istore_n 22 [(2, .int 0), (0, rf G 69), (1, .int (nI m))] (by decide) rfl rfl dX11_doom_21 rfl ?_
    rw [nI_clamp (show m < 2 ^ 31 by omega)] at hq
    have L : ∀ i, i ≤ 201 → ∀ I2 E, DayM I2 E → DI K E → FrM I I2 → HoM I R J Q 1 (.inl (if i = 201 then -1 else dmF K f m (200 - i) i E)) → V G mX11_doom (d + 60) 0 0 0 0 22 [(2, .int (nI i)), (0, rf G 69), (1, .int (nI m))] [] 103 I2 R J Q := by
      refine loopd 201 (fun I2 E hM2 hE hz2 hq => ?_) (fun i hi ih I2 E hM2 hE hz2 hq => ?_)
      · rw [if_pos rfl] at hq
        refine V_iload_n 23 0 rfl rfl dX11_doom_22 rfl ?_
        refine V_sipush 26 (200) rfl dX11_doom_23 rfl ?_
        refine V_icmp_gt 53 29 rfl dX11_doom_26 rfl (fun c26 => ?_) (fun c26 => absurd (by decide) c26)
        refine V_iconst 54 (-1) rfl dX11_doom_53 rfl ?_
        refine V_ret_i rfl rfl (Nat.le_of_ble_eq_true rfl) (fun h => absurd h (by decide)) (Nat.le_of_ble_eq_true rfl) (hq I2 hz2) dX11_doom_54
      · obtain ⟨-, hK2, -, -, -, hL2, -⟩ := hX.fr hz2
        refine V_iload_n 23 0 rfl rfl dX11_doom_22 rfl ?_
        refine V_sipush 26 (200) rfl dX11_doom_23 rfl ?_
        refine V_icmp_gt 53 29 rfl dX11_doom_26 rfl (fun c26 => absurd c26 (nI_nlt (a := 200) (by omega) (by decide))) (fun c26 => ?_)
        refine V_aload_n 30 1 rfl _ rfl rfl dX11_doom_29 rfl ?_
        refine V_getR 33 69 11 41 89 (hRM 41) flX11_74 rfl rfl rfl (by decide) dX11_doom_30 rfl ?_
        refine V_bipush 35 (30) rfl dX11_doom_33 rfl ?_
        refine V_iload_n 36 2 rfl rfl dX11_doom_35 rfl ?_
        refine V_iadd 37 dX11_doom_36 rfl ?_
        refine V_rw (nI_add 30 m) ?_
        refine V_ialdN 38 89 51 (30 + m) (E (30 + m)) (hM2 (30 + m) (by omega)) (by omega) (by decide) rfl (by decide) dX11_doom_37 rfl ?_
        refine V_if_ne 43 41 rfl dX11_doom_38 rfl (fun c38 => ?_) (fun c38 => ?_)
        · refine V_aload_n 44 1 rfl _ rfl rfl dX11_doom_43 rfl ?_
          refine V_callV (K' := 0) (S' := 0) 47 69 11 0 [] mkX11_passes lkX11_377 (by decide) rfl rfl (by decide) rfl (Nat.le_of_ble_eq_true rfl) (Nat.le_of_ble_eq_true rfl) (Nat.le_of_ble_eq_true rfl) (Nat.le_of_ble_eq_true rfl) rfl rfl dX11_doom_44 rfl (c_X11_passes hRM hK2 hW hM2 hE.1 hE.2.2.1 hE.2.1 hL2 (fun I3 hM_I3 hF_I3 => ?_))
          refine Kq_v (k' := 0) (sl' := 0) rfl rfl ?_
          rw [pass_eq hW hE.2.2.2.1] at hM_I3
          refine V_iinc 50 0 rfl (nI (i + 1)) [(2, .int (nI (i + 1))), (0, rf G 69), (1, .int (nI m))] (nI_1 _) (by decide) rfl dX11_doom_47 rfl ?_
          refine V_goto 22 rfl dX11_doom_50 ?_
          exact V_lv [0, 1, 2] rfl (ih I3 _ hM_I3 (DI_pass hW hfR hE) (hz2.G (FrG.S hF_I3)) (by rw [dm_s hi c38] at hq; exact hq))
        · refine V_iload_n 42 0 rfl rfl dX11_doom_41 rfl ?_
          refine V_ret_i rfl rfl (Nat.le_of_ble_eq_true rfl) (fun h => absurd h (by decide)) (Nat.le_of_ble_eq_true rfl) (by rw [if_neg (show ¬ i = 201 by omega), dmF_0 c38] at hq; exact hq I2 hz2) dX11_doom_42
    exact V_lv [0, 1, 2] rfl (L 0 (Nat.zero_le _) I1 D hM hI hz1 (by rw [if_neg (show ¬ (0 : Nat) = 201 by decide), Nat.sub_zero]; exact hq))
  · refine Kq_i (k' := 0) (sl' := 0) rfl rfl ?_
    rw [ckN_n (by omega) i8] at hq
    refine V_if_ne 16 14 rfl dX11_doom_11 rfl (fun c11 => absurd c11 (by decide)) (fun c11 => ?_)
    refine V_iconst 15 (0) rfl dX11_doom_14 rfl ?_
    refine V_ret_i rfl rfl (Nat.le_of_ble_eq_true rfl) (fun h => absurd h (by decide)) (Nat.le_of_ble_eq_true rfl) (hq.x hI0 rfl) dX11_doom_15
theorem c_X11_draws {G : Gx} {d : Nat} {I : FI} {R : FR} {J : FJ} {Q : Po} {sd : Int32} {n : Nat} (h0 : 0 < n) (hn : n < 2 ^ 31) (hsd : I 69 54 = sd) (hq : ∀ I', (∀ a, a ≠ 69 → I' a = I a) → (∀ j, j ≠ 54 → I' 69 j = I 69 j) → I' 69 54 = drw sd → Q (.inl (some (.int (nI (drv sd n))))) 103 I' R J) : Cc G mX11_draws d 0 0 [rf G 69, .int (nI n)] 103 I R J Q := by
  show V _ _ _ _ _ _ _ _ [(0, rf G 69), (1, .int (nI n))] [] _ _ _ _ _
  refine V_aload_n 1 0 rfl _ rfl rfl dX11_draws_0 rfl ?_
  refine V_aload_n 2 0 rfl _ rfl rfl dX11_draws_1 rfl ?_
  refine V_getI 5 69 11 54 sd hsd flX11_442 rfl rfl rfl (by decide) dX11_draws_2 rfl ?_
  refine V_ldcw 8 (1103515245) rfl ckX11_445 dX11_draws_5 rfl ?_
  refine V_imul 9 dX11_draws_8 rfl ?_
  refine V_sipush 12 (12345) rfl dX11_draws_9 rfl ?_
  refine V_iadd 13 dX11_draws_12 rfl ?_
  refine V_rw (show _ = drw sd from rfl) ?_
  refine V_putI 16 69 11 54 flX11_442 rfl rfl rfl (by decide) rfl dX11_draws_13 rfl ?_
  refine V_aload_n 17 0 rfl _ rfl rfl dX11_draws_16 rfl ?_
  refine V_getI 20 69 11 54 (drw sd) rfl flX11_442 rfl rfl rfl (by decide) dX11_draws_17 rfl ?_
  refine V_bipush 22 (16) rfl dX11_draws_20 rfl ?_
  refine V_ishr 23 dX11_draws_22 rfl ?_
  refine V_sipush 26 (32767) rfl dX11_draws_23 rfl ?_
  refine V_iand 27 dX11_draws_26 rfl ?_
  refine V_rw (sh_s (drw sd)) ?_
  refine V_iload_n 28 1 rfl rfl dX11_draws_27 rfl ?_
  refine V_irem 29 (nI_ne0 h0 hn) dX11_draws_28 rfl ?_
  refine V_rw (dr_rem sd h0 hn) ?_
  refine V_ret_i rfl rfl (Nat.le_of_ble_eq_true rfl) (fun h => absurd h (by decide)) (Nat.le_of_ble_eq_true rfl) (hq _ (fun a ha => up2_n _ _ _ ha) (fun j hj => by rw [up2_s]; exact upd_n hj) (by rw [up2_s]; exact upd_s)) dX11_draws_29
theorem c_X11_wears_A {G : Gx} {d : Nat} {I : FI} {R : FR} {J : FJ} {Q : Po} (hRM : ∀ k, R 69 k = refM k) {K : CO} {D : DV} {m h : Nat} (hK : CoastM I K) (h6 : cM K ≤ 6) (hM : DayM I D) (hF : Flg D) (hB : Bey K D) (hm : m < 6) (hh : h < 8) (hq : ∀ v I', DayM I' (weD D m h) → FrD I I' → Q (.inl (some (.int v))) 103 I' R J) : Cc G mX11_wears (d + 1) 0 0 [rf G 69, .int (nI m), .int (nI h)] 103 I R J Q :=
  c_X11_wears hRM hK h6 hM hF hB hm hh (fun e => hq 0 I (by rw [weD, if_neg e]; exact hM) FrD.rf) (fun e1 e2 I' h1 h2 => hq 1 I' (by rw [weD, if_pos ⟨e1, e2⟩]; exact h1) h2)
theorem c_X11_sails_A {G : Gx} {d : Nat} {I : FI} {R : FR} {J : FJ} {Q : Po} (hRM : ∀ k, R 69 k = refM k) {D : DV} {m g : Nat} (hM : DayM I D) (hF : Flg D) (hm : m < 6) (hq : ∀ v I', DayM I' (saD D m g) → FrD I I' → Q (.inl (some (.int v))) 103 I' R J) : Cc G mX11_sails d 0 0 [rf G 69, .int (nI m), .int (nI g)] 103 I R J Q :=
  c_X11_sails hRM hM hF hm (fun e => hq 0 I (by rw [saD, if_neg e]; exact hM) FrD.rf) (fun e1 e2 e3 I' h1 h2 => hq 1 I' (by rw [saD, if_pos ⟨e1, e2, e3⟩]; exact h1) h2)
theorem c_X11_comesHome_A {G : Gx} {d : Nat} {I : FI} {R : FR} {J : FJ} {Q : Po} (hRM : ∀ k, R 69 k = refM k) {D : DV} {m : Nat} (hM : DayM I D) (hm : m < 6) (hq : ∀ v I', DayM I' (dHome D m) → FrD I I' → Q (.inl (some (.int v))) 103 I' R J) : Cc G mX11_comesHome d 0 0 [rf G 69, .int (nI m)] 103 I R J Q :=
  c_X11_comesHome hRM hM hm (fun e => hq 0 I (by rw [dHome, if_pos e]; exact hM) FrD.rf) (fun e I' h1 h2 => hq 1 I' h1 h2)
theorem FrG.D {I I' : FI} (h : FrD I I') : FrG I I' := FrG.S h.S
theorem FrG.sd {I I' : FI} (h1 : ∀ a, a ≠ 69 → I' a = I a) (h2 : ∀ j, j ≠ 54 → I' 69 j = I 69 j) : FrG I I' := ⟨fun a q1 _ _ _ _ => h1 a q1, h2⟩
theorem FrG.rf {I : FI} : FrG I I := ⟨fun _ _ _ _ _ _ => rfl, fun _ _ => rfl⟩
set_option maxHeartbeats 8000000 in
theorem c_X11_seasonGoes {G : Gx} {d : Nat} {I : FI} {R : FR} {J : FJ} {Q : Po} {K : CO} {f : DV → Int32} {D : DV} (hX : RM I R K f D) {sd q : Int32} {hr : Nat} (hhr : hr ≤ 96) (hq : ∀ I', DayM I' (seS K f q D sd hr).1 → FrG I I' → Q (.inl none) 103 I' R J) : Cc G mX11_seasonGoes (d + 10) 0 0 [rf G 69, .int sd, .int q, .int (nI hr)] 103 I R J Q := by
  have hX' := hX
  obtain ⟨hRM, hK, hW, hN, hI, hL, hfR⟩ := hX'
  have h8 := hW.1
  have hg6 := hW.2.1
  have h6 := hW.2.2.1
  have L1 : Drn K → ∀ i, i ≤ hr → ∀ I2, DayM I2 (seS K f q D sd i).1 → I2 69 54 = (seS K f q D sd i).2 → FrG I I2 → V G mX11_seasonGoes (d + 10) 0 0 0 0 40 [(5, .int (nI i)), (4, .int 1), (0, rf G 69), (2, .int q), (3, .int (nI hr))] [] 103 I2 R J Q := by
    intro hd
    have L : ∀ i, i ≤ hr → ∀ I2, DayM I2 (seS K f q D sd i).1 → I2 69 54 = (seS K f q D sd i).2 → FrG I I2 → V G mX11_seasonGoes (d + 10) 0 0 0 0 40 [(5, .int (nI i)), (4, .int 1), (0, rf G 69), (2, .int q), (3, .int (nI hr))] [] 103 I2 R J Q := by
      refine loopd hr (fun I2 hM2 hs2 hz2 => ?_) (fun i hi ih I2 hM2 hs2 hz2 => ?_)
      · refine V_iload 42 0 rfl dX11_seasonGoes_40 rfl ?_
        refine V_iload_n 43 4 rfl rfl dX11_seasonGoes_42 rfl ?_
        refine V_icmp_ge 126 46 rfl dX11_seasonGoes_43 rfl (fun c43 => ?_) (fun c43 => absurd (Int32.le_refl _) c43)
        refine V_ret_v rfl (Nat.le_of_ble_eq_true rfl) (fun h => absurd h (by decide)) (Nat.le_of_ble_eq_true rfl) (hq I2 hM2 hz2) dX11_seasonGoes_126
      · obtain ⟨-, hK2, -, -, -, hL2, -⟩ := hX.frG hz2
        have hE := DI_se (q := q) (sd := sd) hW hfR hI i
        have e : seS K f q D sd (i + 1) = (passD K f (drD K q (seS K f q D sd i).1 (seS K f q D sd i).2), drw (drw (drw (drw (seS K f q D sd i).2)))) := by rw [seS, if_pos hd]
        refine V_iload 42 0 rfl dX11_seasonGoes_40 rfl ?_
        refine V_iload_n 43 4 rfl rfl dX11_seasonGoes_42 rfl ?_
        refine V_icmp_ge 126 46 rfl dX11_seasonGoes_43 rfl (fun c43 => absurd c43 (nI_ge hi (by omega))) (fun c43 => ?_)
        refine V_iload 48 1 rfl dX11_seasonGoes_46 rfl ?_
        refine V_if_eq 116 51 rfl dX11_seasonGoes_48 rfl (fun c48 => absurd c48 (by decide)) (fun c48 => ?_)
        refine V_aload_n 52 2 rfl _ rfl rfl dX11_seasonGoes_51 rfl ?_
        refine V_aload_n 53 2 rfl _ rfl rfl dX11_seasonGoes_52 rfl ?_
        refine V_getI 56 69 11 23 (nI (cM K)) hK2.2.2.1 flX11_181 rfl rfl rfl (by decide) dX11_seasonGoes_53 rfl ?_
        refine V_callV (K' := 0) (S' := 0) 59 69 11 1 [.int (nI (cM K))] mkX11_draws lkX11_446 (by decide) rfl rfl (by decide) rfl (Nat.le_of_ble_eq_true rfl) (Nat.le_of_ble_eq_true rfl) (Nat.le_of_ble_eq_true rfl) (Nat.le_of_ble_eq_true rfl) rfl rfl dX11_seasonGoes_56 rfl (c_X11_draws (n := cM K) hd.1 (by omega) hs2 (fun J1 hx1 hy1 hs1 => ?_))
        refine Kq_i (k' := 0) (sl' := 0) rfl rfl ?_
        have hsJ1 := hs1
        have hG1 : FrG I2 J1 := FrG.sd hx1 hy1
        refine V_istore 61 [(6, .int (nI (drv ((seS K f q D sd i).2) (cM K)))), (5, .int (nI i)), (4, .int 1), (0, rf G 69), (2, .int q), (3, .int (nI hr))] (by decide) rfl dX11_seasonGoes_59 rfl ?_
        refine V_aload_n 62 3 rfl _ rfl rfl dX11_seasonGoes_61 rfl ?_
        refine V_aload_n 63 3 rfl _ rfl rfl dX11_seasonGoes_62 rfl ?_
        refine V_getI 66 69 11 21 (nI (cH K)) (hX.frG (hz2.tr hG1)).2.1.1 flX11_175 rfl rfl rfl (by decide) dX11_seasonGoes_63 rfl ?_
        refine V_callV (K' := 0) (S' := 0) 69 69 11 1 [.int (nI (cH K))] mkX11_draws lkX11_446 (by decide) rfl rfl (by decide) rfl (Nat.le_of_ble_eq_true rfl) (Nat.le_of_ble_eq_true rfl) (Nat.le_of_ble_eq_true rfl) (Nat.le_of_ble_eq_true rfl) rfl rfl dX11_seasonGoes_66 rfl (c_X11_draws (n := cH K) hd.2.1 (by omega) hsJ1 (fun J2 hx2 hy2 hs2 => ?_))
        refine Kq_i (k' := 0) (sl' := 0) rfl rfl ?_
        have hsJ2 := hs2
        have hG2 : FrG I2 J2 := hG1.tr (FrG.sd hx2 hy2)
        refine V_istore 71 [(7, .int (nI (drv (drw (seS K f q D sd i).2) (cH K)))), (6, .int (nI (drv ((seS K f q D sd i).2) (cM K)))), (5, .int (nI i)), (4, .int 1), (0, rf G 69), (2, .int q), (3, .int (nI hr))] (by decide) rfl dX11_seasonGoes_69 rfl ?_
        refine V_aload_n 72 4 rfl _ rfl rfl dX11_seasonGoes_71 rfl ?_
        refine V_aload_n 73 4 rfl _ rfl rfl dX11_seasonGoes_72 rfl ?_
        refine V_getI 76 69 11 22 (nI (cG K)) (hX.frG (hz2.tr hG2)).2.1.2.1 flX11_178 rfl rfl rfl (by decide) dX11_seasonGoes_73 rfl ?_
        refine V_callV (K' := 0) (S' := 0) 79 69 11 1 [.int (nI (cG K))] mkX11_draws lkX11_446 (by decide) rfl rfl (by decide) rfl (Nat.le_of_ble_eq_true rfl) (Nat.le_of_ble_eq_true rfl) (Nat.le_of_ble_eq_true rfl) (Nat.le_of_ble_eq_true rfl) rfl rfl dX11_seasonGoes_76 rfl (c_X11_draws (n := cG K) hd.2.2 (by omega) hsJ2 (fun J3 hx3 hy3 hs3 => ?_))
        refine Kq_i (k' := 0) (sl' := 0) rfl rfl ?_
        have hsJ3 := hs3
        have hG3 : FrG I2 J3 := hG2.tr (FrG.sd hx3 hy3)
        refine V_istore 81 [(8, .int (nI (drv (drw (drw (seS K f q D sd i).2)) (cG K)))), (7, .int (nI (drv (drw (seS K f q D sd i).2) (cH K)))), (6, .int (nI (drv ((seS K f q D sd i).2) (cM K)))), (5, .int (nI i)), (4, .int 1), (0, rf G 69), (2, .int q), (3, .int (nI hr))] (by decide) rfl dX11_seasonGoes_79 rfl ?_
        refine V_aload_n 82 5 rfl _ rfl rfl dX11_seasonGoes_81 rfl ?_
        refine V_iload 84 2 rfl dX11_seasonGoes_82 rfl ?_
        refine V_iload 86 1 rfl dX11_seasonGoes_84 rfl ?_
        have hm6 : drv (seS K f q D sd i).2 (cM K) < 6 := by have := drv_lt (seS K f q D sd i).2 hd.1; omega
        have hM3 : DayM J3 (seS K f q D sd i).1 := fun k hk => by rw [hx3 89 (by decide), hx2 89 (by decide), hx1 89 (by decide)]; exact hM2 k hk
        refine V_callV (K' := 0) (S' := 0) 89 69 11 2 [.int (nI (drv ((seS K f q D sd i).2) (cM K))), .int (nI (drv (drw (seS K f q D sd i).2) (cH K)))] mkX11_wears lkX11_364 (by decide) rfl rfl (by decide) rfl (Nat.le_of_ble_eq_true rfl) (Nat.le_of_ble_eq_true rfl) (Nat.le_of_ble_eq_true rfl) (Nat.le_of_ble_eq_true rfl) rfl rfl dX11_seasonGoes_86 rfl (c_X11_wears_A hRM (hX.frG (hz2.tr hG3)).2.1 h6 hM3 hE.1.1 hE.2.2.1 hm6 (by have := drv_lt (drw (seS K f q D sd i).2) hd.2.1; omega) (fun v4 J4 hM4 hx4 => ?_))
        refine Kq_i (k' := 0) (sl' := 0) rfl rfl ?_
        have hE4 := DI_we (m := drv (seS K f q D sd i).2 (cM K)) h6 hE hm6 (drv_lt (drw (seS K f q D sd i).2) hd.2.1)
        have hG4 := hG3.tr (FrG.D hx4)
        refine V_pop 90 rfl dX11_seasonGoes_89 rfl ?_
        refine V_aload_n 91 5 rfl _ rfl rfl dX11_seasonGoes_90 rfl ?_
        refine V_iload 93 2 rfl dX11_seasonGoes_91 rfl ?_
        refine V_iload 95 0 rfl dX11_seasonGoes_93 rfl ?_
        refine V_callV (K' := 0) (S' := 0) 98 69 11 2 [.int (nI (drv ((seS K f q D sd i).2) (cM K))), .int (nI (drv (drw (drw (seS K f q D sd i).2)) (cG K)))] mkX11_sails lkX11_368 (by decide) rfl rfl (by decide) rfl (Nat.le_of_ble_eq_true rfl) (Nat.le_of_ble_eq_true rfl) (Nat.le_of_ble_eq_true rfl) (Nat.le_of_ble_eq_true rfl) rfl rfl dX11_seasonGoes_95 rfl (c_X11_sails_A hRM hM4 hE4.1.1 hm6 (fun v5 J5 hM5 hx5 => ?_))
        refine Kq_i (k' := 0) (sl' := 0) rfl rfl ?_
        have hE5 := DI_sa (m := drv (seS K f q D sd i).2 (cM K)) h6 hE4 hm6 (drv_lt (drw (drw (seS K f q D sd i).2)) hd.2.2)
        have hG5 := hG4.tr (FrG.D hx5)
        have hsJ5 : J5 69 54 = drw (drw (drw (seS K f q D sd i).2)) := by rw [hx5 69 (by decide), hx4 69 (by decide)]; exact hs3
        refine V_pop 99 rfl dX11_seasonGoes_98 rfl ?_
        refine V_aload_n 100 5 rfl _ rfl rfl dX11_seasonGoes_99 rfl ?_
        refine V_bipush 102 (16) rfl dX11_seasonGoes_100 rfl ?_
        refine V_callV (K' := 0) (S' := 0) 105 69 11 1 [.int 16] mkX11_draws lkX11_446 (by decide) rfl rfl (by decide) rfl (Nat.le_of_ble_eq_true rfl) (Nat.le_of_ble_eq_true rfl) (Nat.le_of_ble_eq_true rfl) (Nat.le_of_ble_eq_true rfl) rfl rfl dX11_seasonGoes_102 rfl (c_X11_draws (n := 16) (by decide) (by decide) hsJ5 (fun J6 hx6 hy6 hs6 => ?_))
        refine Kq_i (k' := 0) (sl' := 0) rfl rfl ?_
        have hG6 := hG5.tr (FrG.sd hx6 hy6)
        have hM6 : DayM J6 (saD (weD (seS K f q D sd i).1 (drv (seS K f q D sd i).2 (cM K)) (drv (drw (seS K f q D sd i).2) (cH K))) (drv (seS K f q D sd i).2 (cM K)) (drv (drw (drw (seS K f q D sd i).2)) (cG K))) := fun k hk => by rw [hx6 89 (by decide)]; exact hM5 k hk
        have hE6 := DI_dr (q := q) (sd := (seS K f q D sd i).2) hW hd.1 hd.2.1 hd.2.2 hE
        have hD6 : ∀ b : Bool, True := fun _ => trivial
        refine V_iload_n 106 6 rfl rfl dX11_seasonGoes_105 rfl ?_
        refine V_icmp_ge 116 109 rfl dX11_seasonGoes_106 rfl (fun c106 => ?_) (fun c106 => ?_)
        · refine V_aload_n 117 5 rfl _ rfl rfl dX11_seasonGoes_116 rfl ?_
          have hM8 : DayM J6 (drD K q (seS K f q D sd i).1 (seS K f q D sd i).2) := by rw [drD, if_neg (Int32.not_lt.mpr c106)]; exact hM6
          have hX8 := hX.frG (hz2.tr hG6)
          have hs8 : J6 69 54 = drw (drw (drw (drw (seS K f q D sd i).2))) := hs6
          refine V_callV (K' := 0) (S' := 0) 120 69 11 0 [] mkX11_passes lkX11_377 (by decide) rfl rfl (by decide) rfl (Nat.le_of_ble_eq_true rfl) (Nat.le_of_ble_eq_true rfl) (Nat.le_of_ble_eq_true rfl) (Nat.le_of_ble_eq_true rfl) rfl rfl dX11_seasonGoes_117 rfl (c_X11_passes hRM hX8.2.1 hW hM8 hE6.1 hE6.2.2.1 hE6.2.1 hX8.2.2.2.2.2.1 (fun I3 hM_I3 hF_I3 => ?_))
          refine Kq_v (k' := 0) (sl' := 0) rfl rfl ?_
          rw [pass_eq hW hE6.2.2.2.1] at hM_I3
          have hz3 := (hz2.tr hG6).tr (FrG.S hF_I3)
          refine V_iinc 123 3 rfl (nI (i + 1)) [(5, .int (nI (i + 1))), (8, .int (nI (drv (drw (drw (seS K f q D sd i).2)) (cG K)))), (7, .int (nI (drv (drw (seS K f q D sd i).2) (cH K)))), (6, .int (nI (drv ((seS K f q D sd i).2) (cM K)))), (4, .int 1), (0, rf G 69), (2, .int q), (3, .int (nI hr))] (nI_1 _) (by decide) rfl dX11_seasonGoes_120 rfl ?_
          refine V_goto 40 rfl dX11_seasonGoes_123 ?_
          exact V_lv [0, 4, 5, 6, 7] rfl (ih I3 (by rw [e]; exact hM_I3) (by rw [e, hF_I3 69 (by decide) (by decide) (by decide) (by decide)]; exact hs8) hz3)
        · refine V_aload_n 110 5 rfl _ rfl rfl dX11_seasonGoes_109 rfl ?_
          refine V_iload 112 2 rfl dX11_seasonGoes_110 rfl ?_
          refine V_callV (K' := 0) (S' := 0) 115 69 11 1 [.int (nI (drv ((seS K f q D sd i).2) (cM K)))] mkX11_comesHome lkX11_371 (by decide) rfl rfl (by decide) rfl (Nat.le_of_ble_eq_true rfl) (Nat.le_of_ble_eq_true rfl) (Nat.le_of_ble_eq_true rfl) (Nat.le_of_ble_eq_true rfl) rfl rfl dX11_seasonGoes_112 rfl (c_X11_comesHome_A hRM hM6 hm6 (fun v7 J7 hM7 hx7 => ?_))
          refine Kq_i (k' := 0) (sl' := 0) rfl rfl ?_
          have hG7 := hG6.tr (FrG.D hx7)
          refine V_pop 116 rfl dX11_seasonGoes_115 rfl ?_
          refine V_aload_n 117 5 rfl _ rfl rfl dX11_seasonGoes_116 rfl ?_
          have hM8 : DayM J7 (drD K q (seS K f q D sd i).1 (seS K f q D sd i).2) := by rw [drD, if_pos (Int32.not_le.mp c106)]; exact hM7
          have hX8 := hX.frG (hz2.tr hG7)
          have hs8 : J7 69 54 = drw (drw (drw (drw (seS K f q D sd i).2))) := by rw [hx7 69 (by decide)]; exact hs6
          refine V_callV (K' := 0) (S' := 0) 120 69 11 0 [] mkX11_passes lkX11_377 (by decide) rfl rfl (by decide) rfl (Nat.le_of_ble_eq_true rfl) (Nat.le_of_ble_eq_true rfl) (Nat.le_of_ble_eq_true rfl) (Nat.le_of_ble_eq_true rfl) rfl rfl dX11_seasonGoes_117 rfl (c_X11_passes hRM hX8.2.1 hW hM8 hE6.1 hE6.2.2.1 hE6.2.1 hX8.2.2.2.2.2.1 (fun I3 hM_I3 hF_I3 => ?_))
          refine Kq_v (k' := 0) (sl' := 0) rfl rfl ?_
          rw [pass_eq hW hE6.2.2.2.1] at hM_I3
          have hz3 := (hz2.tr hG7).tr (FrG.S hF_I3)
          refine V_iinc 123 3 rfl (nI (i + 1)) [(5, .int (nI (i + 1))), (8, .int (nI (drv (drw (drw (seS K f q D sd i).2)) (cG K)))), (7, .int (nI (drv (drw (seS K f q D sd i).2) (cH K)))), (6, .int (nI (drv ((seS K f q D sd i).2) (cM K)))), (4, .int 1), (0, rf G 69), (2, .int q), (3, .int (nI hr))] (nI_1 _) (by decide) rfl dX11_seasonGoes_120 rfl ?_
          refine V_goto 40 rfl dX11_seasonGoes_123 ?_
          exact V_lv [0, 4, 5, 6, 7] rfl (ih I3 (by rw [e]; exact hM_I3) (by rw [e, hF_I3 69 (by decide) (by decide) (by decide) (by decide)]; exact hs8) hz3)
    exact L
  have L0 : ¬ Drn K → ∀ i, i ≤ hr → ∀ I2, DayM I2 (seS K f q D sd i).1 → I2 69 54 = (seS K f q D sd i).2 → FrG I I2 → V G mX11_seasonGoes (d + 10) 0 0 0 0 40 [(5, .int (nI i)), (4, .int 0), (0, rf G 69), (2, .int q), (3, .int (nI hr))] [] 103 I2 R J Q := by
    intro hd
    have L : ∀ i, i ≤ hr → ∀ I2, DayM I2 (seS K f q D sd i).1 → I2 69 54 = (seS K f q D sd i).2 → FrG I I2 → V G mX11_seasonGoes (d + 10) 0 0 0 0 40 [(5, .int (nI i)), (4, .int 0), (0, rf G 69), (2, .int q), (3, .int (nI hr))] [] 103 I2 R J Q := by
      refine loopd hr (fun I2 hM2 hs2 hz2 => ?_) (fun i hi ih I2 hM2 hs2 hz2 => ?_)
      · refine V_iload 42 0 rfl dX11_seasonGoes_40 rfl ?_
        refine V_iload_n 43 4 rfl rfl dX11_seasonGoes_42 rfl ?_
        refine V_icmp_ge 126 46 rfl dX11_seasonGoes_43 rfl (fun c43 => ?_) (fun c43 => absurd (Int32.le_refl _) c43)
        refine V_ret_v rfl (Nat.le_of_ble_eq_true rfl) (fun h => absurd h (by decide)) (Nat.le_of_ble_eq_true rfl) (hq I2 hM2 hz2) dX11_seasonGoes_126
      · obtain ⟨-, hK2, -, -, -, hL2, -⟩ := hX.frG hz2
        have hE := DI_se (q := q) (sd := sd) hW hfR hI i
        have e : seS K f q D sd (i + 1) = (passD K f (seS K f q D sd i).1, (seS K f q D sd i).2) := by rw [seS, if_neg hd]
        refine V_iload 42 0 rfl dX11_seasonGoes_40 rfl ?_
        refine V_iload_n 43 4 rfl rfl dX11_seasonGoes_42 rfl ?_
        refine V_icmp_ge 126 46 rfl dX11_seasonGoes_43 rfl (fun c43 => absurd c43 (nI_ge hi (by omega))) (fun c43 => ?_)
        refine V_iload 48 1 rfl dX11_seasonGoes_46 rfl ?_
        refine V_if_eq 116 51 rfl dX11_seasonGoes_48 rfl (fun c48 => ?_) (fun c48 => absurd c48 (by decide))
        refine V_aload_n 117 2 rfl _ rfl rfl dX11_seasonGoes_116 rfl ?_
        refine V_callV (K' := 0) (S' := 0) 120 69 11 0 [] mkX11_passes lkX11_377 (by decide) rfl rfl (by decide) rfl (Nat.le_of_ble_eq_true rfl) (Nat.le_of_ble_eq_true rfl) (Nat.le_of_ble_eq_true rfl) (Nat.le_of_ble_eq_true rfl) rfl rfl dX11_seasonGoes_117 rfl (c_X11_passes hRM hK2 hW hM2 hE.1 hE.2.2.1 hE.2.1 hL2 (fun I3 hM_I3 hF_I3 => ?_))
        refine Kq_v (k' := 0) (sl' := 0) rfl rfl ?_
        rw [pass_eq hW hE.2.2.2.1] at hM_I3
        refine V_iinc 123 0 rfl (nI (i + 1)) [(5, .int (nI (i + 1))), (4, .int 0), (0, rf G 69), (2, .int q), (3, .int (nI hr))] (nI_1 _) (by decide) rfl dX11_seasonGoes_120 rfl ?_
        refine V_goto 40 rfl dX11_seasonGoes_123 ?_
        exact V_lv [0, 1, 2, 3, 4] rfl (ih I3 (by rw [e]; exact hM_I3) (by rw [e, hF_I3 69 (by decide) (by decide) (by decide) (by decide)]; exact hs2) (hz2.tr (FrG.S hF_I3)))
    exact L
  show V _ _ _ _ _ _ _ _ [(0, rf G 69), (1, .int sd), (2, .int q), (3, .int (nI hr))] [] _ _ _ _ _
  by_cases hd : Drn K
  · refine V_aload_n 1 0 rfl _ rfl rfl dX11_seasonGoes_0 rfl ?_
    refine V_callV (K' := 0) (S' := 0) 4 69 11 0 [] mkX11_take lkX11_323 (by decide) rfl rfl (by decide) rfl (Nat.le_of_ble_eq_true rfl) (Nat.le_of_ble_eq_true rfl) (Nat.le_of_ble_eq_true rfl) (Nat.le_of_ble_eq_true rfl) rfl rfl dX11_seasonGoes_1 rfl (c_X11_take hRM (fun I1 hT1 hT2 => ?_))
    refine Kq_v (k' := 0) (sl' := 0) rfl rfl ?_
    have hz1 : FrG I I1 := FrG.D (fun a ha => hT1 a ha)
    obtain ⟨I2, eI2⟩ : ∃ I2, I2 = up2 I1 69 54 sd := ⟨_, rfl⟩
    have hz2 : FrG I I2 := hz1.tr (FrG.sd (fun a ha => by rw [eI2, up2_n _ _ _ ha]) (fun j hj => by rw [eI2, up2_s, upd_n hj]))
    have hK2 := (hX.frG hz2).2.1
    have hs2 : I2 69 54 = sd := by rw [eI2, up2_s, upd_s]
    have hM2 : DayM I2 D := fun k hk => by rw [eI2, up2_n _ _ _ (by decide), hT2 k hk]; exact hN k hk
    refine V_aload_n 5 0 rfl _ rfl rfl dX11_seasonGoes_4 rfl ?_
    refine V_iload_n 6 1 rfl rfl dX11_seasonGoes_5 rfl ?_
    refine V_putI 9 69 11 54 flX11_442 rfl rfl rfl (by decide) rfl dX11_seasonGoes_6 rfl ?_
    rw [← eI2]
    refine V_aload_n 10 0 rfl _ rfl rfl dX11_seasonGoes_9 rfl ?_
    refine V_getI 13 69 11 23 (nI (cM K)) hK2.2.2.1 flX11_181 rfl rfl rfl (by decide) dX11_seasonGoes_10 rfl ?_
    refine V_if_le 34 16 rfl dX11_seasonGoes_13 rfl (fun c13 => absurd c13 (nI_nle hd.1 (by omega))) (fun c13 => ?_)
    refine V_aload_n 17 0 rfl _ rfl rfl dX11_seasonGoes_16 rfl ?_
    refine V_getI 20 69 11 21 (nI (cH K)) hK2.1 flX11_175 rfl rfl rfl (by decide) dX11_seasonGoes_17 rfl ?_
    refine V_if_le 34 23 rfl dX11_seasonGoes_20 rfl (fun c20 => absurd c20 (nI_nle hd.2.1 (by omega))) (fun c20 => ?_)
    refine V_aload_n 24 0 rfl _ rfl rfl dX11_seasonGoes_23 rfl ?_
    refine V_getI 27 69 11 22 (nI (cG K)) hK2.2.1 flX11_178 rfl rfl rfl (by decide) dX11_seasonGoes_24 rfl ?_
    refine V_if_le 34 30 rfl dX11_seasonGoes_27 rfl (fun c27 => absurd c27 (nI_nle hd.2.2 (by omega))) (fun c27 => ?_)
    refine V_iconst 31 (1) rfl dX11_seasonGoes_30 rfl ?_
    refine V_goto 35 rfl dX11_seasonGoes_31 ?_
    refine V_istore 37 [(4, .int 1), (0, rf G 69), (1, .int sd), (2, .int q), (3, .int (nI hr))] (by decide) rfl dX11_seasonGoes_35 rfl ?_
    refine V_iconst 38 (0) rfl dX11_seasonGoes_37 rfl ?_
    refine V_istore 40 [(5, .int 0), (4, .int 1), (0, rf G 69), (1, .int sd), (2, .int q), (3, .int (nI hr))] (by decide) rfl dX11_seasonGoes_38 rfl ?_
    exact V_lv [0, 1, 2, 4, 5] rfl (L1 hd 0 (Nat.zero_le _) _ hM2 hs2 hz2)
  · refine V_aload_n 1 0 rfl _ rfl rfl dX11_seasonGoes_0 rfl ?_
    refine V_callV (K' := 0) (S' := 0) 4 69 11 0 [] mkX11_take lkX11_323 (by decide) rfl rfl (by decide) rfl (Nat.le_of_ble_eq_true rfl) (Nat.le_of_ble_eq_true rfl) (Nat.le_of_ble_eq_true rfl) (Nat.le_of_ble_eq_true rfl) rfl rfl dX11_seasonGoes_1 rfl (c_X11_take hRM (fun I1 hT1 hT2 => ?_))
    refine Kq_v (k' := 0) (sl' := 0) rfl rfl ?_
    have hz1 : FrG I I1 := FrG.D (fun a ha => hT1 a ha)
    obtain ⟨I2, eI2⟩ : ∃ I2, I2 = up2 I1 69 54 sd := ⟨_, rfl⟩
    have hz2 : FrG I I2 := hz1.tr (FrG.sd (fun a ha => by rw [eI2, up2_n _ _ _ ha]) (fun j hj => by rw [eI2, up2_s, upd_n hj]))
    have hK2 := (hX.frG hz2).2.1
    have hs2 : I2 69 54 = sd := by rw [eI2, up2_s, upd_s]
    have hM2 : DayM I2 D := fun k hk => by rw [eI2, up2_n _ _ _ (by decide), hT2 k hk]; exact hN k hk
    refine V_aload_n 5 0 rfl _ rfl rfl dX11_seasonGoes_4 rfl ?_
    refine V_iload_n 6 1 rfl rfl dX11_seasonGoes_5 rfl ?_
    refine V_putI 9 69 11 54 flX11_442 rfl rfl rfl (by decide) rfl dX11_seasonGoes_6 rfl ?_
    rw [← eI2]
    refine V_aload_n 10 0 rfl _ rfl rfl dX11_seasonGoes_9 rfl ?_
    refine V_getI 13 69 11 23 (nI (cM K)) hK2.2.2.1 flX11_181 rfl rfl rfl (by decide) dX11_seasonGoes_10 rfl ?_
    refine V_if_le 34 16 rfl dX11_seasonGoes_13 rfl (fun c13 => ?_) (fun c13 => ?_)
    · refine V_iconst 35 (0) rfl dX11_seasonGoes_34 rfl ?_
      refine V_istore 37 [(4, .int 0), (0, rf G 69), (1, .int sd), (2, .int q), (3, .int (nI hr))] (by decide) rfl dX11_seasonGoes_35 rfl ?_
      refine V_iconst 38 (0) rfl dX11_seasonGoes_37 rfl ?_
      refine V_istore 40 [(5, .int 0), (4, .int 0), (0, rf G 69), (1, .int sd), (2, .int q), (3, .int (nI hr))] (by decide) rfl dX11_seasonGoes_38 rfl ?_
      exact V_lv [0, 1, 2, 4, 5] rfl (L0 hd 0 (Nat.zero_le _) _ hM2 hs2 hz2)
    · refine V_aload_n 17 0 rfl _ rfl rfl dX11_seasonGoes_16 rfl ?_
      refine V_getI 20 69 11 21 (nI (cH K)) hK2.1 flX11_175 rfl rfl rfl (by decide) dX11_seasonGoes_17 rfl ?_
      refine V_if_le 34 23 rfl dX11_seasonGoes_20 rfl (fun c20 => ?_) (fun c20 => ?_)
      · refine V_iconst 35 (0) rfl dX11_seasonGoes_34 rfl ?_
        refine V_istore 37 [(4, .int 0), (0, rf G 69), (1, .int sd), (2, .int q), (3, .int (nI hr))] (by decide) rfl dX11_seasonGoes_35 rfl ?_
        refine V_iconst 38 (0) rfl dX11_seasonGoes_37 rfl ?_
        refine V_istore 40 [(5, .int 0), (4, .int 0), (0, rf G 69), (1, .int sd), (2, .int q), (3, .int (nI hr))] (by decide) rfl dX11_seasonGoes_38 rfl ?_
        exact V_lv [0, 1, 2, 4, 5] rfl (L0 hd 0 (Nat.zero_le _) _ hM2 hs2 hz2)
      · refine V_aload_n 24 0 rfl _ rfl rfl dX11_seasonGoes_23 rfl ?_
        refine V_getI 27 69 11 22 (nI (cG K)) hK2.2.1 flX11_178 rfl rfl rfl (by decide) dX11_seasonGoes_24 rfl ?_
        refine V_if_le 34 30 rfl dX11_seasonGoes_27 rfl (fun c27 => ?_) (fun c27 => ?_)
        · refine V_iconst 35 (0) rfl dX11_seasonGoes_34 rfl ?_
          refine V_istore 37 [(4, .int 0), (0, rf G 69), (1, .int sd), (2, .int q), (3, .int (nI hr))] (by decide) rfl dX11_seasonGoes_35 rfl ?_
          refine V_iconst 38 (0) rfl dX11_seasonGoes_37 rfl ?_
          refine V_istore 40 [(5, .int 0), (4, .int 0), (0, rf G 69), (1, .int sd), (2, .int q), (3, .int (nI hr))] (by decide) rfl dX11_seasonGoes_38 rfl ?_
          exact V_lv [0, 1, 2, 4, 5] rfl (L0 hd 0 (Nat.zero_le _) _ hM2 hs2 hz2)
        · exact absurd ⟨Nat.pos_of_ne_zero (fun e => c13 (by rw [e]; decide)), Nat.pos_of_ne_zero (fun e => c20 (by rw [e]; decide)), Nat.pos_of_ne_zero (fun e => c27 (by rw [e]; decide))⟩ hd
theorem c_X11_isSeason {G : Gx} {d : Nat} {I : FI} {R : FR} {J : FJ} {Q : Po} {x y : Int32} (h1 : 0 ≤ x → x ≤ 16 → 1 ≤ y → y ≤ 96 → Q (.inl (some (.int 1))) 103 I R J) (h0 : ¬ (0 ≤ x ∧ x ≤ 16 ∧ 1 ≤ y ∧ y ≤ 96) → Q (.inl (some (.int 0))) 103 I R J) : Cc G mX11_isSeason d 0 0 [.int x, .int y] 103 I R J Q := by
  show V _ _ _ _ _ _ _ _ [(0, .int x), (1, .int y)] [] _ _ _ _ _
  refine V_iload_n 1 0 rfl rfl dX11_isSeason_0 rfl ?_
  refine V_if_lt 25 4 rfl dX11_isSeason_1 rfl (fun c1 => ?_) (fun c1 => ?_)
  · refine V_iconst 26 (0) rfl dX11_isSeason_25 rfl ?_
    refine V_ret_i rfl (by first | rfl | decide) (Nat.le_of_ble_eq_true rfl) (fun h => absurd h (by decide)) (Nat.le_of_ble_eq_true rfl) (h0 (fun h => by first | exact absurd c1 (Int32.not_lt.mpr h.1) | exact absurd c7 (Int32.not_lt.mpr h.2.1) | exact absurd c12 (Int32.not_lt.mpr h.2.2.1) | exact absurd c18 (Int32.not_lt.mpr h.2.2.2))) dX11_isSeason_26
  · refine V_iload_n 5 0 rfl rfl dX11_isSeason_4 rfl ?_
    refine V_bipush 7 (16) rfl dX11_isSeason_5 rfl ?_
    refine V_icmp_gt 25 10 rfl dX11_isSeason_7 rfl (fun c7 => ?_) (fun c7 => ?_)
    · refine V_iconst 26 (0) rfl dX11_isSeason_25 rfl ?_
      refine V_ret_i rfl (by first | rfl | decide) (Nat.le_of_ble_eq_true rfl) (fun h => absurd h (by decide)) (Nat.le_of_ble_eq_true rfl) (h0 (fun h => by first | exact absurd c1 (Int32.not_lt.mpr h.1) | exact absurd c7 (Int32.not_lt.mpr h.2.1) | exact absurd c12 (Int32.not_lt.mpr h.2.2.1) | exact absurd c18 (Int32.not_lt.mpr h.2.2.2))) dX11_isSeason_26
    · refine V_iload_n 11 1 rfl rfl dX11_isSeason_10 rfl ?_
      refine V_iconst 12 (1) rfl dX11_isSeason_11 rfl ?_
      refine V_icmp_lt 25 15 rfl dX11_isSeason_12 rfl (fun c12 => ?_) (fun c12 => ?_)
      · refine V_iconst 26 (0) rfl dX11_isSeason_25 rfl ?_
        refine V_ret_i rfl (by first | rfl | decide) (Nat.le_of_ble_eq_true rfl) (fun h => absurd h (by decide)) (Nat.le_of_ble_eq_true rfl) (h0 (fun h => by first | exact absurd c1 (Int32.not_lt.mpr h.1) | exact absurd c7 (Int32.not_lt.mpr h.2.1) | exact absurd c12 (Int32.not_lt.mpr h.2.2.1) | exact absurd c18 (Int32.not_lt.mpr h.2.2.2))) dX11_isSeason_26
      · refine V_iload_n 16 1 rfl rfl dX11_isSeason_15 rfl ?_
        refine V_bipush 18 (96) rfl dX11_isSeason_16 rfl ?_
        refine V_icmp_gt 25 21 rfl dX11_isSeason_18 rfl (fun c18 => ?_) (fun c18 => ?_)
        · refine V_iconst 26 (0) rfl dX11_isSeason_25 rfl ?_
          refine V_ret_i rfl (by first | rfl | decide) (Nat.le_of_ble_eq_true rfl) (fun h => absurd h (by decide)) (Nat.le_of_ble_eq_true rfl) (h0 (fun h => by first | exact absurd c1 (Int32.not_lt.mpr h.1) | exact absurd c7 (Int32.not_lt.mpr h.2.1) | exact absurd c12 (Int32.not_lt.mpr h.2.2.1) | exact absurd c18 (Int32.not_lt.mpr h.2.2.2))) dX11_isSeason_26
        · refine V_iconst 22 (1) rfl dX11_isSeason_21 rfl ?_
          refine V_goto 26 rfl dX11_isSeason_22 ?_
          refine V_ret_i rfl (by first | rfl | decide) (Nat.le_of_ble_eq_true rfl) (fun h => absurd h (by decide)) (Nat.le_of_ble_eq_true rfl) (h1 (Int32.not_lt.mp c1) (Int32.not_lt.mp c7) (Int32.not_lt.mp c12) (Int32.not_lt.mp c18)) dX11_isSeason_26
set_option maxHeartbeats 8000000 in
theorem c_X11_season {G : Gx} {d : Nat} {I : FI} {R : FR} {J : FJ} {Q : Po} {K : CO} {f : DV → Int32} {D : DV} (hX : RM I R K f D) {x1 x2 x3 x4 : Int32}  (hq : HoM I R J Q 1 (ckW x2 0 16 (ckW x3 1 96 (ckW x4 0 3 (.inl (outF (seS K f x2 D x1 x3.toNatClampNeg).1 x4.toNatClampNeg)))))) : Cc G mX11_season (d + 60) 0 0 [rf G 69, .int x1, .int x2, .int x3, .int x4] 103 I R J Q := by
  obtain ⟨I0, hI0⟩ : ∃ I0, I0 = up2 I 69 0 0 := ⟨_, rfl⟩
  have hz := FrM.z hI0
  obtain ⟨hRM, hK, hW, hN, hI, hL, hfR⟩ := hX.fr hz
  have ht : I0 69 0 = 0 := hz.2.1
  have h8 := hW.1
  have hg6 := hW.2.1
  have h6 := hW.2.2.1
  have hWD := hI.1
  have hFl := hI.1.1
  have hB := hI.2.2.1
  have hSt := hI.2.1
  show V _ _ _ _ _ _ _ _ [(0, rf G 69), (1, .int x1), (2, .int x2), (3, .int x3), (4, .int x4)] [] _ _ _ _ _
  refine V_aload_n 1 0 rfl _ rfl rfl dX11_season_0 rfl ?_
  refine V_iconst 2 (0) rfl dX11_season_1 rfl ?_
  refine V_putI 5 69 11 0 flX11_3 rfl rfl rfl (by decide) rfl dX11_season_2 rfl ?_
  rw [← hI0]
  refine V_aload_n 6 0 rfl _ rfl rfl dX11_season_5 rfl ?_
  refine V_iload_n 7 2 rfl rfl dX11_season_6 rfl ?_
  refine V_iload_n 8 3 rfl rfl dX11_season_7 rfl ?_
  refine V_callS (K' := 0) (S' := 0) 11 2 [.int x2, .int x3] mkX11_isSeason lkX11_449 rfl (Nat.le_of_ble_eq_true rfl) (Nat.le_of_ble_eq_true rfl) (Nat.le_of_ble_eq_true rfl) (Nat.le_of_ble_eq_true rfl) rfl rfl dX11_season_8 rfl (c_X11_isSeason (fun a8 b8 e8 f8 => ?_) (fun a8 => ?_))
  · refine Kq_i (k' := 0) (sl' := 0) rfl rfl ?_
    rw [ckW_y a8 b8, ckW_y e8 f8] at hq
    obtain ⟨n, hn, rfl⟩ := in_nI (n := 96) (by decide) (Int32.le_trans (by decide) e8) f8
    refine V_if_eq 28 14 rfl dX11_season_11 rfl (fun c11 => absurd c11 (by decide)) (fun c11 => ?_)
    refine V_iload 16 4 rfl dX11_season_14 rfl ?_
    refine V_iconst 17 (0) rfl dX11_season_16 rfl ?_
    refine V_iconst 18 (3) rfl dX11_season_17 rfl ?_
    refine V_callS (K' := 0) (S' := 0) 21 3 [.int x4, .int 0, .int 3] mkX11_within lkX11_383 rfl (Nat.le_of_ble_eq_true rfl) (Nat.le_of_ble_eq_true rfl) (Nat.le_of_ble_eq_true rfl) (Nat.le_of_ble_eq_true rfl) rfl rfl dX11_season_18 rfl (c_X11_within (fun a18 b18 => ?_) (fun a18 => ?_))
    · refine Kq_i (k' := 0) (sl' := 0) rfl rfl ?_
      rw [ckW_y a18 b18] at hq
      obtain ⟨j, hj, rfl⟩ := in_nI (n := 3) (by decide) a18 b18
      refine V_if_eq 28 24 rfl dX11_season_21 rfl (fun c21 => absurd c21 (by decide)) (fun c21 => ?_)
      refine V_iconst 25 (1) rfl dX11_season_24 rfl ?_
      refine V_goto 29 rfl dX11_season_25 ?_
      refine V_iconst 30 (1) rfl dX11_season_29 rfl ?_
      refine V_iconst 31 (1) rfl dX11_season_30 rfl ?_
      refine V_callV (K' := 0) (S' := 0) 34 69 11 3 [.int 1, .int 1, .int 1] mkX11_may lkX11_216 (by decide) rfl rfl (by decide) rfl (Nat.le_of_ble_eq_true rfl) (Nat.le_of_ble_eq_true rfl) (Nat.le_of_ble_eq_true rfl) (Nat.le_of_ble_eq_true rfl) rfl rfl dX11_season_31 rfl (c_X11_may (cd := 1) (kd := 1) hRM (by decide) (by decide) (by decide) ht (fun _ => ?_) (fun e => absurd e (by decide)))
      refine Kq_i (k' := 0) (sl' := 0) rfl rfl ?_
      refine V_if_ne 39 37 rfl dX11_season_34 rfl (fun c34 => ?_) (fun c34 => absurd c34 (by decide))
      refine V_aload_n 40 0 rfl _ rfl rfl dX11_season_39 rfl ?_
      refine V_iload_n 41 1 rfl rfl dX11_season_40 rfl ?_
      refine V_iload_n 42 2 rfl rfl dX11_season_41 rfl ?_
      refine V_iload_n 43 3 rfl rfl dX11_season_42 rfl ?_
      rw [nI_clamp (show n < 2 ^ 31 by omega), nI_clamp (show j < 2 ^ 31 by omega)] at hq
      refine V_callV (K' := 0) (S' := 0) 46 69 11 3 [.int x1, .int x2, .int (nI n)] mkX11_seasonGoes lkX11_452 (by decide) rfl rfl (by decide) rfl (Nat.le_of_ble_eq_true rfl) (Nat.le_of_ble_eq_true rfl) (Nat.le_of_ble_eq_true rfl) (Nat.le_of_ble_eq_true rfl) rfl rfl dX11_season_43 rfl (c_X11_seasonGoes (hX.fr hz) hn (fun I2 hM2 hG2 => ?_))
      refine Kq_v (k' := 0) (sl' := 0) rfl rfl ?_
      have hz2 := hz.G hG2
      obtain ⟨-, hK2, -, -, -, hL2, -⟩ := hX.fr hz2
      have hE := DI_se (q := x2) (sd := x1) hW hfR hI n
      rcases (show j = 0 ∨ j = 1 ∨ j = 2 ∨ j = 3 by omega) with rfl | rfl | rfl | rfl
      · show V _ _ _ _ _ _ _ _ [(0, rf G 69), (1, .int x1), (2, .int x2), (3, .int (nI n)), (4, .int 0)] [] _ _ _ _ _
        refine V_iload 48 4 rfl dX11_season_46 rfl ?_
        refine V_if_ne 64 51 rfl dX11_season_48 rfl (fun c48 => absurd c48 (by decide)) (fun c48 => ?_)
        refine V_aload_n 52 0 rfl _ rfl rfl dX11_season_51 rfl ?_
        refine V_bipush 54 (24) rfl dX11_season_52 rfl ?_
        refine V_aload_n 55 0 rfl _ rfl rfl dX11_season_54 rfl ?_
        refine V_getI 58 69 11 23 (nI (cM K)) hK2.2.2.1 flX11_181 rfl rfl rfl (by decide) dX11_season_55 rfl ?_
        refine V_callV (K' := 0) (S' := 0) 61 69 11 2 [.int 24, .int (nI (cM K))] mkX11_sumOf lkX11_395 (by decide) rfl rfl (by decide) rfl (Nat.le_of_ble_eq_true rfl) (Nat.le_of_ble_eq_true rfl) (Nat.le_of_ble_eq_true rfl) (Nat.le_of_ble_eq_true rfl) rfl rfl dX11_season_58 rfl (c_X11_sumOf (b := 24) (z := cM K) hRM (by omega) hM2 ?_)
        rw [← sumF_to (b := 24) (N := 6) (fun m a b => (hE.2.2.1 m a b).2.2.2) 6 h6 (Nat.le_refl _)]
        refine Kq_i (k' := 0) (sl' := 0) rfl rfl ?_
        refine V_goto 100 rfl dX11_season_61 ?_
        refine V_ret_i rfl rfl (Nat.le_of_ble_eq_true rfl) (fun h => absurd h (by decide)) (Nat.le_of_ble_eq_true rfl) (hq I2 hz2) dX11_season_100
      · show V _ _ _ _ _ _ _ _ [(0, rf G 69), (1, .int x1), (2, .int x2), (3, .int (nI n)), (4, .int 1)] [] _ _ _ _ _
        refine V_iload 48 4 rfl dX11_season_46 rfl ?_
        refine V_if_ne 64 51 rfl dX11_season_48 rfl (fun c48 => ?_) (fun c48 => absurd c48 (by decide))
        refine V_iload 66 4 rfl dX11_season_64 rfl ?_
        refine V_iconst 67 (1) rfl dX11_season_66 rfl ?_
        refine V_icmp_ne 77 70 rfl dX11_season_67 rfl (fun c67 => absurd c67 (by decide)) (fun c67 => ?_)
        refine V_aload_n 71 0 rfl _ rfl rfl dX11_season_70 rfl ?_
        refine V_callV (K' := 0) (S' := 0) 74 69 11 0 [] mkX11_livingNow lkX11_386 (by decide) rfl rfl (by decide) rfl (Nat.le_of_ble_eq_true rfl) (Nat.le_of_ble_eq_true rfl) (Nat.le_of_ble_eq_true rfl) (Nat.le_of_ble_eq_true rfl) rfl rfl dX11_season_71 rfl (c_X11_livingNow hRM hK2 h6 hM2 ?_)
        rw [← livB_to (fun m a b => (hE.2.2.1 m a b).2.2.1) 6 h6 (Nat.le_refl _)]
        refine Kq_i (k' := 0) (sl' := 0) rfl rfl ?_
        refine V_goto 100 rfl dX11_season_74 ?_
        refine V_ret_i rfl rfl (Nat.le_of_ble_eq_true rfl) (fun h => absurd h (by decide)) (Nat.le_of_ble_eq_true rfl) (hq I2 hz2) dX11_season_100
      · show V _ _ _ _ _ _ _ _ [(0, rf G 69), (1, .int x1), (2, .int x2), (3, .int (nI n)), (4, .int 2)] [] _ _ _ _ _
        refine V_iload 48 4 rfl dX11_season_46 rfl ?_
        refine V_if_ne 64 51 rfl dX11_season_48 rfl (fun c48 => ?_) (fun c48 => absurd c48 (by decide))
        refine V_iload 66 4 rfl dX11_season_64 rfl ?_
        refine V_iconst 67 (1) rfl dX11_season_66 rfl ?_
        refine V_icmp_ne 77 70 rfl dX11_season_67 rfl (fun c67 => ?_) (fun c67 => absurd c67 (by decide))
        refine V_iload 79 4 rfl dX11_season_77 rfl ?_
        refine V_iconst 80 (2) rfl dX11_season_79 rfl ?_
        refine V_icmp_ne 96 83 rfl dX11_season_80 rfl (fun c80 => absurd c80 (by decide)) (fun c80 => ?_)
        refine V_aload_n 84 0 rfl _ rfl rfl dX11_season_83 rfl ?_
        refine V_bipush 86 (44) rfl dX11_season_84 rfl ?_
        refine V_aload_n 87 0 rfl _ rfl rfl dX11_season_86 rfl ?_
        refine V_getI 90 69 11 22 (nI (cG K)) hK2.2.1 flX11_178 rfl rfl rfl (by decide) dX11_season_87 rfl ?_
        refine V_callV (K' := 0) (S' := 0) 93 69 11 2 [.int 44, .int (nI (cG K))] mkX11_sumOf lkX11_395 (by decide) rfl rfl (by decide) rfl (Nat.le_of_ble_eq_true rfl) (Nat.le_of_ble_eq_true rfl) (Nat.le_of_ble_eq_true rfl) (Nat.le_of_ble_eq_true rfl) rfl rfl dX11_season_90 rfl (c_X11_sumOf (b := 44) (z := cG K) hRM (by omega) hM2 ?_)
        rw [← sumF_to (b := 44) (N := 6) (fun m a b => hE.2.2.2.2.2 m a b) 6 hg6 (Nat.le_refl _)]
        refine Kq_i (k' := 0) (sl' := 0) rfl rfl ?_
        refine V_goto 100 rfl dX11_season_93 ?_
        refine V_ret_i rfl rfl (Nat.le_of_ble_eq_true rfl) (fun h => absurd h (by decide)) (Nat.le_of_ble_eq_true rfl) (hq I2 hz2) dX11_season_100
      · show V _ _ _ _ _ _ _ _ [(0, rf G 69), (1, .int x1), (2, .int x2), (3, .int (nI n)), (4, .int 3)] [] _ _ _ _ _
        refine V_iload 48 4 rfl dX11_season_46 rfl ?_
        refine V_if_ne 64 51 rfl dX11_season_48 rfl (fun c48 => ?_) (fun c48 => absurd c48 (by decide))
        refine V_iload 66 4 rfl dX11_season_64 rfl ?_
        refine V_iconst 67 (1) rfl dX11_season_66 rfl ?_
        refine V_icmp_ne 77 70 rfl dX11_season_67 rfl (fun c67 => ?_) (fun c67 => absurd c67 (by decide))
        refine V_iload 79 4 rfl dX11_season_77 rfl ?_
        refine V_iconst 80 (2) rfl dX11_season_79 rfl ?_
        refine V_icmp_ne 96 83 rfl dX11_season_80 rfl (fun c80 => ?_) (fun c80 => absurd c80 (by decide))
        refine V_aload_n 97 0 rfl _ rfl rfl dX11_season_96 rfl ?_
        refine V_callV (K' := 0) (S' := 0) 100 69 11 0 [] mkX11_wornNow lkX11_392 (by decide) rfl rfl (by decide) rfl (Nat.le_of_ble_eq_true rfl) (Nat.le_of_ble_eq_true rfl) (Nat.le_of_ble_eq_true rfl) (Nat.le_of_ble_eq_true rfl) rfl rfl dX11_season_97 rfl (c_X11_wornNow hRM hK2 h6 hM2 ?_)
        rw [← wornF_to (fun m a b => (hE.2.2.1 m a b).1) 6 h6 (Nat.le_refl _)]
        refine Kq_i (k' := 0) (sl' := 0) rfl rfl ?_
        refine V_ret_i rfl rfl (Nat.le_of_ble_eq_true rfl) (fun h => absurd h (by decide)) (Nat.le_of_ble_eq_true rfl) (hq I2 hz2) dX11_season_100
    · refine Kq_i (k' := 0) (sl' := 0) rfl rfl ?_
      rw [ckW_n a18] at hq
      refine V_if_eq 28 24 rfl dX11_season_21 rfl (fun c21 => ?_) (fun c21 => absurd c21 (by decide))
      refine V_iconst 29 (0) rfl dX11_season_28 rfl ?_
      refine V_iconst 30 (1) rfl dX11_season_29 rfl ?_
      refine V_iconst 31 (1) rfl dX11_season_30 rfl ?_
      refine V_callV (K' := 0) (S' := 0) 34 69 11 3 [.int 0, .int 1, .int 1] mkX11_may lkX11_216 (by decide) rfl rfl (by decide) rfl (Nat.le_of_ble_eq_true rfl) (Nat.le_of_ble_eq_true rfl) (Nat.le_of_ble_eq_true rfl) (Nat.le_of_ble_eq_true rfl) rfl rfl dX11_season_31 rfl (c_X11_may (cd := 1) (kd := 1) hRM (by decide) (by decide) (by decide) ht (fun e => absurd rfl e) (fun _ => ?_))
      refine Kq_i (k' := 0) (sl' := 0) rfl rfl ?_
      refine V_if_ne 39 37 rfl dX11_season_34 rfl (fun c34 => absurd c34 (by decide)) (fun c34 => ?_)
      refine V_iconst 38 (0) rfl dX11_season_37 rfl ?_
      refine V_ret_i rfl rfl (Nat.le_of_ble_eq_true rfl) (fun h => absurd h (by decide)) (Nat.le_of_ble_eq_true rfl) (hq.x hI0 rfl) dX11_season_38
  · refine Kq_i (k' := 0) (sl' := 0) rfl rfl ?_
    rw [ckW2_n a8] at hq
    refine V_if_eq 28 14 rfl dX11_season_11 rfl (fun c11 => ?_) (fun c11 => absurd c11 (by decide))
    refine V_iconst 29 (0) rfl dX11_season_28 rfl ?_
    refine V_iconst 30 (1) rfl dX11_season_29 rfl ?_
    refine V_iconst 31 (1) rfl dX11_season_30 rfl ?_
    refine V_callV (K' := 0) (S' := 0) 34 69 11 3 [.int 0, .int 1, .int 1] mkX11_may lkX11_216 (by decide) rfl rfl (by decide) rfl (Nat.le_of_ble_eq_true rfl) (Nat.le_of_ble_eq_true rfl) (Nat.le_of_ble_eq_true rfl) (Nat.le_of_ble_eq_true rfl) rfl rfl dX11_season_31 rfl (c_X11_may (cd := 1) (kd := 1) hRM (by decide) (by decide) (by decide) ht (fun e => absurd rfl e) (fun _ => ?_))
    refine Kq_i (k' := 0) (sl' := 0) rfl rfl ?_
    refine V_if_ne 39 37 rfl dX11_season_34 rfl (fun c34 => absurd c34 (by decide)) (fun c34 => ?_)
    refine V_iconst 38 (0) rfl dX11_season_37 rfl ?_
    refine V_ret_i rfl rfl (Nat.le_of_ble_eq_true rfl) (fun h => absurd h (by decide)) (Nat.le_of_ble_eq_true rfl) (hq.x hI0 rfl) dX11_season_38
set_option maxHeartbeats 8000000 in
theorem c_X11_span {G : Gx} {d : Nat} {I : FI} {R : FR} {J : FJ} {Q : Po} {K : CO} {f : DV → Int32} {D : DV} (hX : RM I R K f D) {x1 x2 x3 x4 x5 : Int32}  (hq : HoM I R J Q 1 (ckW x2 1 20 (ckW x3 0 16 (ckW x4 1 96 (ckW x5 0 2 (.inl (spO (spF K f x3 D x1 x4.toNatClampNeg x2.toNatClampNeg) x5.toNatClampNeg))))))) : Cc G mX11_span (d + 60) 0 0 [rf G 69, .int x1, .int x2, .int x3, .int x4, .int x5] 103 I R J Q := by
  obtain ⟨I0, hI0⟩ : ∃ I0, I0 = up2 I 69 0 0 := ⟨_, rfl⟩
  have hz := FrM.z hI0
  obtain ⟨hRM, hK, hW, hN, hI, hL, hfR⟩ := hX.fr hz
  have ht : I0 69 0 = 0 := hz.2.1
  have h8 := hW.1
  have hg6 := hW.2.1
  have h6 := hW.2.2.1
  have hWD := hI.1
  have hFl := hI.1.1
  have hB := hI.2.2.1
  have hSt := hI.2.1
  show V _ _ _ _ _ _ _ _ [(0, rf G 69), (1, .int x1), (2, .int x2), (3, .int x3), (4, .int x4), (5, .int x5)] [] _ _ _ _ _
  refine V_aload_n 1 0 rfl _ rfl rfl dX11_span_0 rfl ?_
  refine V_iconst 2 (0) rfl dX11_span_1 rfl ?_
  refine V_putI 5 69 11 0 flX11_3 rfl rfl rfl (by decide) rfl dX11_span_2 rfl ?_
  rw [← hI0]
  refine V_aload_n 6 0 rfl _ rfl rfl dX11_span_5 rfl ?_
  refine V_iload_n 7 2 rfl rfl dX11_span_6 rfl ?_
  refine V_iconst 8 (1) rfl dX11_span_7 rfl ?_
  refine V_bipush 10 (20) rfl dX11_span_8 rfl ?_
  refine V_callS (K' := 0) (S' := 0) 13 3 [.int x2, .int 1, .int 20] mkX11_within lkX11_383 rfl (Nat.le_of_ble_eq_true rfl) (Nat.le_of_ble_eq_true rfl) (Nat.le_of_ble_eq_true rfl) (Nat.le_of_ble_eq_true rfl) rfl rfl dX11_span_10 rfl (c_X11_within (fun a10 b10 => ?_) (fun a10 => ?_))
  · refine Kq_i (k' := 0) (sl' := 0) rfl rfl ?_
    rw [ckW_y a10 b10] at hq
    obtain ⟨y, hy, rfl⟩ := in_nI (n := 20) (by decide) (Int32.le_trans (by decide) a10) b10
    have hy0 : 0 < y := Nat.pos_of_ne_zero (fun e => absurd a10 (by rw [e]; decide))
    refine V_if_eq 39 16 rfl dX11_span_13 rfl (fun c13 => absurd c13 (by decide)) (fun c13 => ?_)
    refine V_iload_n 17 3 rfl rfl dX11_span_16 rfl ?_
    refine V_iload 19 4 rfl dX11_span_17 rfl ?_
    refine V_callS (K' := 0) (S' := 0) 22 2 [.int x3, .int x4] mkX11_isSeason lkX11_449 rfl (Nat.le_of_ble_eq_true rfl) (Nat.le_of_ble_eq_true rfl) (Nat.le_of_ble_eq_true rfl) (Nat.le_of_ble_eq_true rfl) rfl rfl dX11_span_19 rfl (c_X11_isSeason (fun a19 b19 e19 f19 => ?_) (fun a19 => ?_))
    · refine Kq_i (k' := 0) (sl' := 0) rfl rfl ?_
      rw [ckW_y a19 b19, ckW_y e19 f19] at hq
      obtain ⟨n, hn, rfl⟩ := in_nI (n := 96) (by decide) (Int32.le_trans (by decide) e19) f19
      refine V_if_eq 39 25 rfl dX11_span_22 rfl (fun c22 => absurd c22 (by decide)) (fun c22 => ?_)
      refine V_iload 27 5 rfl dX11_span_25 rfl ?_
      refine V_iconst 28 (0) rfl dX11_span_27 rfl ?_
      refine V_iconst 29 (2) rfl dX11_span_28 rfl ?_
      refine V_callS (K' := 0) (S' := 0) 32 3 [.int x5, .int 0, .int 2] mkX11_within lkX11_383 rfl (Nat.le_of_ble_eq_true rfl) (Nat.le_of_ble_eq_true rfl) (Nat.le_of_ble_eq_true rfl) (Nat.le_of_ble_eq_true rfl) rfl rfl dX11_span_29 rfl (c_X11_within (fun a29 b29 => ?_) (fun a29 => ?_))
      · refine Kq_i (k' := 0) (sl' := 0) rfl rfl ?_
        rw [ckW_y a29 b29] at hq
        obtain ⟨j, hj, rfl⟩ := in_nI (n := 2) (by decide) a29 b29
        refine V_if_eq 39 35 rfl dX11_span_32 rfl (fun c32 => absurd c32 (by decide)) (fun c32 => ?_)
        refine V_iconst 36 (1) rfl dX11_span_35 rfl ?_
        refine V_goto 40 rfl dX11_span_36 ?_
        refine V_iconst 41 (1) rfl dX11_span_40 rfl ?_
        refine V_iconst 42 (1) rfl dX11_span_41 rfl ?_
        refine V_callV (K' := 0) (S' := 0) 45 69 11 3 [.int 1, .int 1, .int 1] mkX11_may lkX11_216 (by decide) rfl rfl (by decide) rfl (Nat.le_of_ble_eq_true rfl) (Nat.le_of_ble_eq_true rfl) (Nat.le_of_ble_eq_true rfl) (Nat.le_of_ble_eq_true rfl) rfl rfl dX11_span_42 rfl (c_X11_may (cd := 1) (kd := 1) hRM (by decide) (by decide) (by decide) ht (fun _ => ?_) (fun e => absurd e (by decide)))
        refine Kq_i (k' := 0) (sl' := 0) rfl rfl ?_
        refine V_if_ne 50 48 rfl dX11_span_45 rfl (fun c45 => ?_) (fun c45 => absurd c45 (by decide))
        refine V_iconst 51 (-1) rfl dX11_span_50 rfl ?_
        refine V_istore 53 [(6, .int (-1)), (0, rf G 69), (1, .int x1), (2, .int (nI y)), (3, .int x3), (4, .int (nI n)), (5, .int (nI j))] (by decide) rfl dX11_span_51 rfl ?_
        refine V_iconst 54 (0) rfl dX11_span_53 rfl ?_
        refine V_istore 56 [(7, .int 0), (6, .int (-1)), (0, rf G 69), (1, .int x1), (2, .int (nI y)), (3, .int x3), (4, .int (nI n)), (5, .int (nI j))] (by decide) rfl dX11_span_54 rfl ?_
        refine V_iconst 57 (0) rfl dX11_span_56 rfl ?_
        refine V_istore 59 [(8, .int 0), (7, .int 0), (6, .int (-1)), (0, rf G 69), (1, .int x1), (2, .int (nI y)), (3, .int x3), (4, .int (nI n)), (5, .int (nI j))] (by decide) rfl dX11_span_57 rfl ?_
        refine V_aload_n 60 3 rfl _ rfl rfl dX11_span_59 rfl ?_
        refine V_callV (K' := 0) (S' := 0) 63 69 11 0 [] mkX11_take lkX11_323 (by decide) rfl rfl (by decide) rfl (Nat.le_of_ble_eq_true rfl) (Nat.le_of_ble_eq_true rfl) (Nat.le_of_ble_eq_true rfl) (Nat.le_of_ble_eq_true rfl) rfl rfl dX11_span_60 rfl (c_X11_take hRM (fun I1 hT1 hT2 => ?_))
        refine Kq_v (k' := 0) (sl' := 0) rfl rfl ?_
        have hz1 := hz.go (fun a _ _ h3 _ _ => hT1 a h3)
        have hM : DayM I1 D := fun k hk => (hT2 k hk).trans (hN k hk)
        have hK1 := hK.frS (fun a _ _ h3 _ => hT1 a h3)
        have hL1 := hL.fr (I' := I1) (by rw [hT1 69 (by decide)]) (hT1 82 (by decide)) (hT1 83 (by decide))
        refine V_aload_n 64 3 rfl _ rfl rfl dX11_span_63 rfl ?_
        refine V_callV (K' := 0) (S' := 0) 67 69 11 0 [] mkX11_livingNow lkX11_386 (by decide) rfl rfl (by decide) rfl (Nat.le_of_ble_eq_true rfl) (Nat.le_of_ble_eq_true rfl) (Nat.le_of_ble_eq_true rfl) (Nat.le_of_ble_eq_true rfl) rfl rfl dX11_span_64 rfl (c_X11_livingNow hRM hK1 h6 hM ?_)
        rw [← livB_to (fun m a b => (hB m a b).2.2.1) 6 h6 (Nat.le_refl _)]
        refine Kq_i (k' := 0) (sl' := 0) rfl rfl ?_
        refine V_istore 69 [(9, .int (livB D 6)), (8, .int 0), (7, .int 0), (6, .int (-1)), (0, rf G 69), (1, .int x1), (2, .int (nI y)), (3, .int x3), (4, .int (nI n)), (5, .int (nI j))] (by decide) rfl dX11_span_67 rfl ?_
        refine V_iconst 70 (0) rfl dX11_span_69 rfl ?_
        refine V_istore 72 [(10, .int 0), (9, .int (livB D 6)), (8, .int 0), (7, .int 0), (6, .int (-1)), (0, rf G 69), (1, .int x1), (2, .int (nI y)), (3, .int x3), (4, .int (nI n)), (5, .int (nI j))] (by decide) rfl dX11_span_70 rfl ?_
        rw [nI_clamp (show n < 2 ^ 31 by omega), nI_clamp (show y < 2 ^ 31 by omega), nI_clamp (show j < 2 ^ 31 by omega)] at hq
        rw [spO_eq hW hfR hI hy0] at hq
        have L : ∀ i, i ≤ y → ∀ I2, FrM I I2 → V G mX11_span (d + 60) 0 0 0 0 72 [(10, .int (nI i)), (6, .int ((spG K f x3 D x1 n i).1)), (7, .int ((spG K f x3 D x1 n i).2.1)), (8, .int ((spG K f x3 D x1 n i).2.2)), (9, .int (livB D 6)), (0, rf G 69), (1, .int x1), (2, .int (nI y)), (3, .int x3), (4, .int (nI n)), (5, .int (nI j))] [] 103 I2 R J Q := by
          refine loopd y (fun I2 hz2 => ?_) (fun i hi ih I2 hz2 => ?_)
          · refine V_iload 74 0 rfl dX11_span_72 rfl ?_
            refine V_iload_n 75 7 rfl rfl dX11_span_74 rfl ?_
            refine V_icmp_ge 164 78 rfl dX11_span_75 rfl (fun c75 => ?_) (fun c75 => absurd (Int32.le_refl _) c75)
            rcases (show j = 0 ∨ j = 1 ∨ j = 2 by omega) with rfl | rfl | rfl
            · show V _ _ _ _ _ _ _ _ [(10, .int (nI y)), (6, .int ((spG K f x3 D x1 n y).1)), (7, .int ((spG K f x3 D x1 n y).2.1)), (8, .int ((spG K f x3 D x1 n y).2.2)), (9, .int (livB D 6)), (0, rf G 69), (1, .int x1), (2, .int (nI y)), (3, .int x3), (4, .int (nI n)), (5, .int 0)] [] _ _ _ _ _
              refine V_iload 166 10 rfl dX11_span_164 rfl ?_
              refine V_if_ne 174 169 rfl dX11_span_166 rfl (fun c166 => absurd c166 (by decide)) (fun c166 => ?_)
              refine V_iload 171 1 rfl dX11_span_169 rfl ?_
              refine V_goto 187 rfl dX11_span_171 ?_
              refine V_ret_i rfl rfl (Nat.le_of_ble_eq_true rfl) (fun h => absurd h (by decide)) (Nat.le_of_ble_eq_true rfl) (hq I2 hz2) dX11_span_187
            · show V _ _ _ _ _ _ _ _ [(10, .int (nI y)), (6, .int ((spG K f x3 D x1 n y).1)), (7, .int ((spG K f x3 D x1 n y).2.1)), (8, .int ((spG K f x3 D x1 n y).2.2)), (9, .int (livB D 6)), (0, rf G 69), (1, .int x1), (2, .int (nI y)), (3, .int x3), (4, .int (nI n)), (5, .int 1)] [] _ _ _ _ _
              refine V_iload 166 10 rfl dX11_span_164 rfl ?_
              refine V_if_ne 174 169 rfl dX11_span_166 rfl (fun c166 => ?_) (fun c166 => absurd c166 (by decide))
              refine V_iload 176 10 rfl dX11_span_174 rfl ?_
              refine V_iconst 177 (1) rfl dX11_span_176 rfl ?_
              refine V_icmp_ne 185 180 rfl dX11_span_177 rfl (fun c177 => absurd c177 (by decide)) (fun c177 => ?_)
              refine V_iload 182 2 rfl dX11_span_180 rfl ?_
              refine V_goto 187 rfl dX11_span_182 ?_
              refine V_ret_i rfl rfl (Nat.le_of_ble_eq_true rfl) (fun h => absurd h (by decide)) (Nat.le_of_ble_eq_true rfl) (hq I2 hz2) dX11_span_187
            · show V _ _ _ _ _ _ _ _ [(10, .int (nI y)), (6, .int ((spG K f x3 D x1 n y).1)), (7, .int ((spG K f x3 D x1 n y).2.1)), (8, .int ((spG K f x3 D x1 n y).2.2)), (9, .int (livB D 6)), (0, rf G 69), (1, .int x1), (2, .int (nI y)), (3, .int x3), (4, .int (nI n)), (5, .int 2)] [] _ _ _ _ _
              refine V_iload 166 10 rfl dX11_span_164 rfl ?_
              refine V_if_ne 174 169 rfl dX11_span_166 rfl (fun c166 => ?_) (fun c166 => absurd c166 (by decide))
              refine V_iload 176 10 rfl dX11_span_174 rfl ?_
              refine V_iconst 177 (1) rfl dX11_span_176 rfl ?_
              refine V_icmp_ne 185 180 rfl dX11_span_177 rfl (fun c177 => ?_) (fun c177 => absurd c177 (by decide))
              refine V_iload 187 3 rfl dX11_span_185 rfl ?_
              refine V_ret_i rfl rfl (Nat.le_of_ble_eq_true rfl) (fun h => absurd h (by decide)) (Nat.le_of_ble_eq_true rfl) (hq I2 hz2) dX11_span_187
          · refine V_iload 74 0 rfl dX11_span_72 rfl ?_
            refine V_iload_n 75 7 rfl rfl dX11_span_74 rfl ?_
            refine V_icmp_ge 164 78 rfl dX11_span_75 rfl (fun c75 => absurd c75 (nI_ge hi (by omega))) (fun c75 => ?_)
            refine V_aload_n 79 5 rfl _ rfl rfl dX11_span_78 rfl ?_
            refine V_iload_n 80 6 rfl rfl dX11_span_79 rfl ?_
            refine V_iload 82 0 rfl dX11_span_80 rfl ?_
            refine V_iadd 83 dX11_span_82 rfl ?_
            refine V_iload_n 84 8 rfl rfl dX11_span_83 rfl ?_
            refine V_iload 86 9 rfl dX11_span_84 rfl ?_
            refine V_callV (K' := 0) (S' := 0) 89 69 11 3 [.int (x1 + (nI i)), .int x3, .int (nI n)] mkX11_seasonGoes lkX11_452 (by decide) rfl rfl (by decide) rfl (Nat.le_of_ble_eq_true rfl) (Nat.le_of_ble_eq_true rfl) (Nat.le_of_ble_eq_true rfl) (Nat.le_of_ble_eq_true rfl) rfl rfl dX11_span_86 rfl (c_X11_seasonGoes (hX.fr hz2) hn (fun I3 hM3 hG3 => ?_))
            refine Kq_v (k' := 0) (sl' := 0) rfl rfl ?_
            have hz3 := hz2.G hG3
            obtain ⟨-, hK3, -, -, -, hL3, -⟩ := hX.fr hz3
            have hM3 : DayM I3 (spI K f x3 D x1 n i) := hM3
            have hE : DI K (spI K f x3 D x1 n i) := DI_se (q := x3) (sd := x1 + nI i) hW hfR hI n
            refine V_aload_n 90 5 rfl _ rfl rfl dX11_span_89 rfl ?_
            refine V_bipush 92 (24) rfl dX11_span_90 rfl ?_
            refine V_aload_n 93 5 rfl _ rfl rfl dX11_span_92 rfl ?_
            refine V_getI 96 69 11 23 (nI (cM K)) hK3.2.2.1 flX11_181 rfl rfl rfl (by decide) dX11_span_93 rfl ?_
            refine V_callV (K' := 0) (S' := 0) 99 69 11 2 [.int 24, .int (nI (cM K))] mkX11_sumOf lkX11_395 (by decide) rfl rfl (by decide) rfl (Nat.le_of_ble_eq_true rfl) (Nat.le_of_ble_eq_true rfl) (Nat.le_of_ble_eq_true rfl) (Nat.le_of_ble_eq_true rfl) rfl rfl dX11_span_96 rfl (c_X11_sumOf (b := 24) (z := cM K) hRM (by omega) hM3 ?_)
            rw [← sumF_to (b := 24) (N := 6) (fun m a b => (hE.2.2.1 m a b).2.2.2) 6 h6 (Nat.le_refl _)]
            refine Kq_i (k' := 0) (sl' := 0) rfl rfl ?_
            refine V_istore 101 [(11, .int (sumF (spI K f x3 D x1 n i) 24 6)), (10, .int (nI i)), (6, .int ((spG K f x3 D x1 n i).1)), (7, .int ((spG K f x3 D x1 n i).2.1)), (8, .int ((spG K f x3 D x1 n i).2.2)), (9, .int (livB D 6)), (0, rf G 69), (1, .int x1), (2, .int (nI y)), (3, .int x3), (4, .int (nI n)), (5, .int (nI j))] (by decide) rfl dX11_span_99 rfl ?_
            refine V_iload 103 2 rfl dX11_span_101 rfl ?_
            refine V_iconst 104 (-1) rfl dX11_span_103 rfl ?_
            refine V_icmp_eq 114 107 rfl dX11_span_104 rfl (fun c104 => ?_) (fun c104 => ?_)
            · refine V_iload 116 0 rfl dX11_span_114 rfl ?_
              refine V_goto 121 rfl dX11_span_116 ?_
              refine V_rw (show _ = (spG K f x3 D x1 n (i + 1)).1 from by show _ = if _ then _ else _; first | rw [if_pos (Or.inl c104)] | rw [if_pos (Or.inr (Int32.not_le.mp c111))] | rw [if_neg (fun h => h.elim c104 (fun h => absurd h (Int32.not_lt.mpr c111)))]) ?_
              refine V_istore 123 [(6, .int ((spG K f x3 D x1 n (i + 1)).1)), (11, .int (sumF (spI K f x3 D x1 n i) 24 6)), (10, .int (nI i)), (7, .int ((spG K f x3 D x1 n i).2.1)), (8, .int ((spG K f x3 D x1 n i).2.2)), (9, .int (livB D 6)), (0, rf G 69), (1, .int x1), (2, .int (nI y)), (3, .int x3), (4, .int (nI n)), (5, .int (nI j))] (by decide) rfl dX11_span_121 rfl ?_
              refine V_iload 125 1 rfl dX11_span_123 rfl ?_
              refine V_iload 127 3 rfl dX11_span_125 rfl ?_
              refine V_icmp_le 135 130 rfl dX11_span_127 rfl (fun c127 => ?_) (fun c127 => ?_)
              · refine V_iload 137 3 rfl dX11_span_135 rfl ?_
                refine V_rw (show _ = (spG K f x3 D x1 n (i + 1)).2.1 from by show _ = if _ then _ else _; first | rw [if_neg (Int32.not_lt.mpr c127)] | rw [if_pos (Int32.not_le.mp c127)]) ?_
                refine V_istore 139 [(7, .int ((spG K f x3 D x1 n (i + 1)).2.1)), (6, .int ((spG K f x3 D x1 n (i + 1)).1)), (11, .int (sumF (spI K f x3 D x1 n i) 24 6)), (10, .int (nI i)), (8, .int ((spG K f x3 D x1 n i).2.2)), (9, .int (livB D 6)), (0, rf G 69), (1, .int x1), (2, .int (nI y)), (3, .int x3), (4, .int (nI n)), (5, .int (nI j))] (by decide) rfl dX11_span_137 rfl ?_
                refine V_iload 141 4 rfl dX11_span_139 rfl ?_
                refine V_aload_n 142 6 rfl _ rfl rfl dX11_span_141 rfl ?_
                refine V_callV (K' := 0) (S' := 0) 145 69 11 0 [] mkX11_livingNow lkX11_386 (by decide) rfl rfl (by decide) rfl (Nat.le_of_ble_eq_true rfl) (Nat.le_of_ble_eq_true rfl) (Nat.le_of_ble_eq_true rfl) (Nat.le_of_ble_eq_true rfl) rfl rfl dX11_span_142 rfl (c_X11_livingNow hRM hK3 h6 hM3 ?_)
                rw [← livB_to (fun m a b => (hE.2.2.1 m a b).2.2.1) 6 h6 (Nat.le_refl _)]
                refine Kq_i (k' := 0) (sl' := 0) rfl rfl ?_
                refine V_iload 147 5 rfl dX11_span_145 rfl ?_
                refine V_icmp_ne 154 150 rfl dX11_span_147 rfl (fun c147 => ?_) (fun c147 => ?_)
                · refine V_iconst 155 (0) rfl dX11_span_154 rfl ?_
                  refine V_iadd 156 dX11_span_155 rfl ?_
                  refine V_rw (show _ = (spG K f x3 D x1 n (i + 1)).2.2 from by show _ = _ + (if _ then _ else _); first | rw [if_neg c147] | rw [if_pos c147]) ?_
                  refine V_istore 158 [(8, .int ((spG K f x3 D x1 n (i + 1)).2.2)), (7, .int ((spG K f x3 D x1 n (i + 1)).2.1)), (6, .int ((spG K f x3 D x1 n (i + 1)).1)), (11, .int (sumF (spI K f x3 D x1 n i) 24 6)), (10, .int (nI i)), (9, .int (livB D 6)), (0, rf G 69), (1, .int x1), (2, .int (nI y)), (3, .int x3), (4, .int (nI n)), (5, .int (nI j))] (by decide) rfl dX11_span_156 rfl ?_
                  refine V_iinc 161 4 rfl (nI (i + 1)) [(10, .int (nI (i + 1))), (8, .int ((spG K f x3 D x1 n (i + 1)).2.2)), (7, .int ((spG K f x3 D x1 n (i + 1)).2.1)), (6, .int ((spG K f x3 D x1 n (i + 1)).1)), (11, .int (sumF (spI K f x3 D x1 n i) 24 6)), (9, .int (livB D 6)), (0, rf G 69), (1, .int x1), (2, .int (nI y)), (3, .int x3), (4, .int (nI n)), (5, .int (nI j))] (nI_1 _) (by decide) rfl dX11_span_158 rfl ?_
                  refine V_goto 72 rfl dX11_span_161 ?_
                  exact V_lv [0, 3, 2, 1, 5, 6, 7, 8, 9, 10, 11] rfl (ih I3 hz3)
                · refine V_iconst 151 (1) rfl dX11_span_150 rfl ?_
                  refine V_goto 155 rfl dX11_span_151 ?_
                  refine V_iadd 156 dX11_span_155 rfl ?_
                  refine V_rw (show _ = (spG K f x3 D x1 n (i + 1)).2.2 from by show _ = _ + (if _ then _ else _); first | rw [if_neg c147] | rw [if_pos c147]) ?_
                  refine V_istore 158 [(8, .int ((spG K f x3 D x1 n (i + 1)).2.2)), (7, .int ((spG K f x3 D x1 n (i + 1)).2.1)), (6, .int ((spG K f x3 D x1 n (i + 1)).1)), (11, .int (sumF (spI K f x3 D x1 n i) 24 6)), (10, .int (nI i)), (9, .int (livB D 6)), (0, rf G 69), (1, .int x1), (2, .int (nI y)), (3, .int x3), (4, .int (nI n)), (5, .int (nI j))] (by decide) rfl dX11_span_156 rfl ?_
                  refine V_iinc 161 4 rfl (nI (i + 1)) [(10, .int (nI (i + 1))), (8, .int ((spG K f x3 D x1 n (i + 1)).2.2)), (7, .int ((spG K f x3 D x1 n (i + 1)).2.1)), (6, .int ((spG K f x3 D x1 n (i + 1)).1)), (11, .int (sumF (spI K f x3 D x1 n i) 24 6)), (9, .int (livB D 6)), (0, rf G 69), (1, .int x1), (2, .int (nI y)), (3, .int x3), (4, .int (nI n)), (5, .int (nI j))] (nI_1 _) (by decide) rfl dX11_span_158 rfl ?_
                  refine V_goto 72 rfl dX11_span_161 ?_
                  exact V_lv [0, 3, 2, 1, 5, 6, 7, 8, 9, 10, 11] rfl (ih I3 hz3)
              · refine V_iload 132 1 rfl dX11_span_130 rfl ?_
                refine V_goto 137 rfl dX11_span_132 ?_
                refine V_rw (show _ = (spG K f x3 D x1 n (i + 1)).2.1 from by show _ = if _ then _ else _; first | rw [if_neg (Int32.not_lt.mpr c127)] | rw [if_pos (Int32.not_le.mp c127)]) ?_
                refine V_istore 139 [(7, .int ((spG K f x3 D x1 n (i + 1)).2.1)), (6, .int ((spG K f x3 D x1 n (i + 1)).1)), (11, .int (sumF (spI K f x3 D x1 n i) 24 6)), (10, .int (nI i)), (8, .int ((spG K f x3 D x1 n i).2.2)), (9, .int (livB D 6)), (0, rf G 69), (1, .int x1), (2, .int (nI y)), (3, .int x3), (4, .int (nI n)), (5, .int (nI j))] (by decide) rfl dX11_span_137 rfl ?_
                refine V_iload 141 4 rfl dX11_span_139 rfl ?_
                refine V_aload_n 142 6 rfl _ rfl rfl dX11_span_141 rfl ?_
                refine V_callV (K' := 0) (S' := 0) 145 69 11 0 [] mkX11_livingNow lkX11_386 (by decide) rfl rfl (by decide) rfl (Nat.le_of_ble_eq_true rfl) (Nat.le_of_ble_eq_true rfl) (Nat.le_of_ble_eq_true rfl) (Nat.le_of_ble_eq_true rfl) rfl rfl dX11_span_142 rfl (c_X11_livingNow hRM hK3 h6 hM3 ?_)
                rw [← livB_to (fun m a b => (hE.2.2.1 m a b).2.2.1) 6 h6 (Nat.le_refl _)]
                refine Kq_i (k' := 0) (sl' := 0) rfl rfl ?_
                refine V_iload 147 5 rfl dX11_span_145 rfl ?_
                refine V_icmp_ne 154 150 rfl dX11_span_147 rfl (fun c147 => ?_) (fun c147 => ?_)
                · refine V_iconst 155 (0) rfl dX11_span_154 rfl ?_
                  refine V_iadd 156 dX11_span_155 rfl ?_
                  refine V_rw (show _ = (spG K f x3 D x1 n (i + 1)).2.2 from by show _ = _ + (if _ then _ else _); first | rw [if_neg c147] | rw [if_pos c147]) ?_
                  refine V_istore 158 [(8, .int ((spG K f x3 D x1 n (i + 1)).2.2)), (7, .int ((spG K f x3 D x1 n (i + 1)).2.1)), (6, .int ((spG K f x3 D x1 n (i + 1)).1)), (11, .int (sumF (spI K f x3 D x1 n i) 24 6)), (10, .int (nI i)), (9, .int (livB D 6)), (0, rf G 69), (1, .int x1), (2, .int (nI y)), (3, .int x3), (4, .int (nI n)), (5, .int (nI j))] (by decide) rfl dX11_span_156 rfl ?_
                  refine V_iinc 161 4 rfl (nI (i + 1)) [(10, .int (nI (i + 1))), (8, .int ((spG K f x3 D x1 n (i + 1)).2.2)), (7, .int ((spG K f x3 D x1 n (i + 1)).2.1)), (6, .int ((spG K f x3 D x1 n (i + 1)).1)), (11, .int (sumF (spI K f x3 D x1 n i) 24 6)), (9, .int (livB D 6)), (0, rf G 69), (1, .int x1), (2, .int (nI y)), (3, .int x3), (4, .int (nI n)), (5, .int (nI j))] (nI_1 _) (by decide) rfl dX11_span_158 rfl ?_
                  refine V_goto 72 rfl dX11_span_161 ?_
                  exact V_lv [0, 3, 2, 1, 5, 6, 7, 8, 9, 10, 11] rfl (ih I3 hz3)
                · refine V_iconst 151 (1) rfl dX11_span_150 rfl ?_
                  refine V_goto 155 rfl dX11_span_151 ?_
                  refine V_iadd 156 dX11_span_155 rfl ?_
                  refine V_rw (show _ = (spG K f x3 D x1 n (i + 1)).2.2 from by show _ = _ + (if _ then _ else _); first | rw [if_neg c147] | rw [if_pos c147]) ?_
                  refine V_istore 158 [(8, .int ((spG K f x3 D x1 n (i + 1)).2.2)), (7, .int ((spG K f x3 D x1 n (i + 1)).2.1)), (6, .int ((spG K f x3 D x1 n (i + 1)).1)), (11, .int (sumF (spI K f x3 D x1 n i) 24 6)), (10, .int (nI i)), (9, .int (livB D 6)), (0, rf G 69), (1, .int x1), (2, .int (nI y)), (3, .int x3), (4, .int (nI n)), (5, .int (nI j))] (by decide) rfl dX11_span_156 rfl ?_
                  refine V_iinc 161 4 rfl (nI (i + 1)) [(10, .int (nI (i + 1))), (8, .int ((spG K f x3 D x1 n (i + 1)).2.2)), (7, .int ((spG K f x3 D x1 n (i + 1)).2.1)), (6, .int ((spG K f x3 D x1 n (i + 1)).1)), (11, .int (sumF (spI K f x3 D x1 n i) 24 6)), (9, .int (livB D 6)), (0, rf G 69), (1, .int x1), (2, .int (nI y)), (3, .int x3), (4, .int (nI n)), (5, .int (nI j))] (nI_1 _) (by decide) rfl dX11_span_158 rfl ?_
                  refine V_goto 72 rfl dX11_span_161 ?_
                  exact V_lv [0, 3, 2, 1, 5, 6, 7, 8, 9, 10, 11] rfl (ih I3 hz3)
            · refine V_iload 109 0 rfl dX11_span_107 rfl ?_
              refine V_iload 111 2 rfl dX11_span_109 rfl ?_
              refine V_icmp_ge 119 114 rfl dX11_span_111 rfl (fun c111 => ?_) (fun c111 => ?_)
              · refine V_iload 121 2 rfl dX11_span_119 rfl ?_
                refine V_rw (show _ = (spG K f x3 D x1 n (i + 1)).1 from by show _ = if _ then _ else _; first | rw [if_pos (Or.inl c104)] | rw [if_pos (Or.inr (Int32.not_le.mp c111))] | rw [if_neg (fun h => h.elim c104 (fun h => absurd h (Int32.not_lt.mpr c111)))]) ?_
                refine V_istore 123 [(6, .int ((spG K f x3 D x1 n (i + 1)).1)), (11, .int (sumF (spI K f x3 D x1 n i) 24 6)), (10, .int (nI i)), (7, .int ((spG K f x3 D x1 n i).2.1)), (8, .int ((spG K f x3 D x1 n i).2.2)), (9, .int (livB D 6)), (0, rf G 69), (1, .int x1), (2, .int (nI y)), (3, .int x3), (4, .int (nI n)), (5, .int (nI j))] (by decide) rfl dX11_span_121 rfl ?_
                refine V_iload 125 1 rfl dX11_span_123 rfl ?_
                refine V_iload 127 3 rfl dX11_span_125 rfl ?_
                refine V_icmp_le 135 130 rfl dX11_span_127 rfl (fun c127 => ?_) (fun c127 => ?_)
                · refine V_iload 137 3 rfl dX11_span_135 rfl ?_
                  refine V_rw (show _ = (spG K f x3 D x1 n (i + 1)).2.1 from by show _ = if _ then _ else _; first | rw [if_neg (Int32.not_lt.mpr c127)] | rw [if_pos (Int32.not_le.mp c127)]) ?_
                  refine V_istore 139 [(7, .int ((spG K f x3 D x1 n (i + 1)).2.1)), (6, .int ((spG K f x3 D x1 n (i + 1)).1)), (11, .int (sumF (spI K f x3 D x1 n i) 24 6)), (10, .int (nI i)), (8, .int ((spG K f x3 D x1 n i).2.2)), (9, .int (livB D 6)), (0, rf G 69), (1, .int x1), (2, .int (nI y)), (3, .int x3), (4, .int (nI n)), (5, .int (nI j))] (by decide) rfl dX11_span_137 rfl ?_
                  refine V_iload 141 4 rfl dX11_span_139 rfl ?_
                  refine V_aload_n 142 6 rfl _ rfl rfl dX11_span_141 rfl ?_
                  refine V_callV (K' := 0) (S' := 0) 145 69 11 0 [] mkX11_livingNow lkX11_386 (by decide) rfl rfl (by decide) rfl (Nat.le_of_ble_eq_true rfl) (Nat.le_of_ble_eq_true rfl) (Nat.le_of_ble_eq_true rfl) (Nat.le_of_ble_eq_true rfl) rfl rfl dX11_span_142 rfl (c_X11_livingNow hRM hK3 h6 hM3 ?_)
                  rw [← livB_to (fun m a b => (hE.2.2.1 m a b).2.2.1) 6 h6 (Nat.le_refl _)]
                  refine Kq_i (k' := 0) (sl' := 0) rfl rfl ?_
                  refine V_iload 147 5 rfl dX11_span_145 rfl ?_
                  refine V_icmp_ne 154 150 rfl dX11_span_147 rfl (fun c147 => ?_) (fun c147 => ?_)
                  · refine V_iconst 155 (0) rfl dX11_span_154 rfl ?_
                    refine V_iadd 156 dX11_span_155 rfl ?_
                    refine V_rw (show _ = (spG K f x3 D x1 n (i + 1)).2.2 from by show _ = _ + (if _ then _ else _); first | rw [if_neg c147] | rw [if_pos c147]) ?_
                    refine V_istore 158 [(8, .int ((spG K f x3 D x1 n (i + 1)).2.2)), (7, .int ((spG K f x3 D x1 n (i + 1)).2.1)), (6, .int ((spG K f x3 D x1 n (i + 1)).1)), (11, .int (sumF (spI K f x3 D x1 n i) 24 6)), (10, .int (nI i)), (9, .int (livB D 6)), (0, rf G 69), (1, .int x1), (2, .int (nI y)), (3, .int x3), (4, .int (nI n)), (5, .int (nI j))] (by decide) rfl dX11_span_156 rfl ?_
                    refine V_iinc 161 4 rfl (nI (i + 1)) [(10, .int (nI (i + 1))), (8, .int ((spG K f x3 D x1 n (i + 1)).2.2)), (7, .int ((spG K f x3 D x1 n (i + 1)).2.1)), (6, .int ((spG K f x3 D x1 n (i + 1)).1)), (11, .int (sumF (spI K f x3 D x1 n i) 24 6)), (9, .int (livB D 6)), (0, rf G 69), (1, .int x1), (2, .int (nI y)), (3, .int x3), (4, .int (nI n)), (5, .int (nI j))] (nI_1 _) (by decide) rfl dX11_span_158 rfl ?_
                    refine V_goto 72 rfl dX11_span_161 ?_
                    exact V_lv [0, 3, 2, 1, 5, 6, 7, 8, 9, 10, 11] rfl (ih I3 hz3)
                  · refine V_iconst 151 (1) rfl dX11_span_150 rfl ?_
                    refine V_goto 155 rfl dX11_span_151 ?_
                    refine V_iadd 156 dX11_span_155 rfl ?_
                    refine V_rw (show _ = (spG K f x3 D x1 n (i + 1)).2.2 from by show _ = _ + (if _ then _ else _); first | rw [if_neg c147] | rw [if_pos c147]) ?_
                    refine V_istore 158 [(8, .int ((spG K f x3 D x1 n (i + 1)).2.2)), (7, .int ((spG K f x3 D x1 n (i + 1)).2.1)), (6, .int ((spG K f x3 D x1 n (i + 1)).1)), (11, .int (sumF (spI K f x3 D x1 n i) 24 6)), (10, .int (nI i)), (9, .int (livB D 6)), (0, rf G 69), (1, .int x1), (2, .int (nI y)), (3, .int x3), (4, .int (nI n)), (5, .int (nI j))] (by decide) rfl dX11_span_156 rfl ?_
                    refine V_iinc 161 4 rfl (nI (i + 1)) [(10, .int (nI (i + 1))), (8, .int ((spG K f x3 D x1 n (i + 1)).2.2)), (7, .int ((spG K f x3 D x1 n (i + 1)).2.1)), (6, .int ((spG K f x3 D x1 n (i + 1)).1)), (11, .int (sumF (spI K f x3 D x1 n i) 24 6)), (9, .int (livB D 6)), (0, rf G 69), (1, .int x1), (2, .int (nI y)), (3, .int x3), (4, .int (nI n)), (5, .int (nI j))] (nI_1 _) (by decide) rfl dX11_span_158 rfl ?_
                    refine V_goto 72 rfl dX11_span_161 ?_
                    exact V_lv [0, 3, 2, 1, 5, 6, 7, 8, 9, 10, 11] rfl (ih I3 hz3)
                · refine V_iload 132 1 rfl dX11_span_130 rfl ?_
                  refine V_goto 137 rfl dX11_span_132 ?_
                  refine V_rw (show _ = (spG K f x3 D x1 n (i + 1)).2.1 from by show _ = if _ then _ else _; first | rw [if_neg (Int32.not_lt.mpr c127)] | rw [if_pos (Int32.not_le.mp c127)]) ?_
                  refine V_istore 139 [(7, .int ((spG K f x3 D x1 n (i + 1)).2.1)), (6, .int ((spG K f x3 D x1 n (i + 1)).1)), (11, .int (sumF (spI K f x3 D x1 n i) 24 6)), (10, .int (nI i)), (8, .int ((spG K f x3 D x1 n i).2.2)), (9, .int (livB D 6)), (0, rf G 69), (1, .int x1), (2, .int (nI y)), (3, .int x3), (4, .int (nI n)), (5, .int (nI j))] (by decide) rfl dX11_span_137 rfl ?_
                  refine V_iload 141 4 rfl dX11_span_139 rfl ?_
                  refine V_aload_n 142 6 rfl _ rfl rfl dX11_span_141 rfl ?_
                  refine V_callV (K' := 0) (S' := 0) 145 69 11 0 [] mkX11_livingNow lkX11_386 (by decide) rfl rfl (by decide) rfl (Nat.le_of_ble_eq_true rfl) (Nat.le_of_ble_eq_true rfl) (Nat.le_of_ble_eq_true rfl) (Nat.le_of_ble_eq_true rfl) rfl rfl dX11_span_142 rfl (c_X11_livingNow hRM hK3 h6 hM3 ?_)
                  rw [← livB_to (fun m a b => (hE.2.2.1 m a b).2.2.1) 6 h6 (Nat.le_refl _)]
                  refine Kq_i (k' := 0) (sl' := 0) rfl rfl ?_
                  refine V_iload 147 5 rfl dX11_span_145 rfl ?_
                  refine V_icmp_ne 154 150 rfl dX11_span_147 rfl (fun c147 => ?_) (fun c147 => ?_)
                  · refine V_iconst 155 (0) rfl dX11_span_154 rfl ?_
                    refine V_iadd 156 dX11_span_155 rfl ?_
                    refine V_rw (show _ = (spG K f x3 D x1 n (i + 1)).2.2 from by show _ = _ + (if _ then _ else _); first | rw [if_neg c147] | rw [if_pos c147]) ?_
                    refine V_istore 158 [(8, .int ((spG K f x3 D x1 n (i + 1)).2.2)), (7, .int ((spG K f x3 D x1 n (i + 1)).2.1)), (6, .int ((spG K f x3 D x1 n (i + 1)).1)), (11, .int (sumF (spI K f x3 D x1 n i) 24 6)), (10, .int (nI i)), (9, .int (livB D 6)), (0, rf G 69), (1, .int x1), (2, .int (nI y)), (3, .int x3), (4, .int (nI n)), (5, .int (nI j))] (by decide) rfl dX11_span_156 rfl ?_
                    refine V_iinc 161 4 rfl (nI (i + 1)) [(10, .int (nI (i + 1))), (8, .int ((spG K f x3 D x1 n (i + 1)).2.2)), (7, .int ((spG K f x3 D x1 n (i + 1)).2.1)), (6, .int ((spG K f x3 D x1 n (i + 1)).1)), (11, .int (sumF (spI K f x3 D x1 n i) 24 6)), (9, .int (livB D 6)), (0, rf G 69), (1, .int x1), (2, .int (nI y)), (3, .int x3), (4, .int (nI n)), (5, .int (nI j))] (nI_1 _) (by decide) rfl dX11_span_158 rfl ?_
                    refine V_goto 72 rfl dX11_span_161 ?_
                    exact V_lv [0, 3, 2, 1, 5, 6, 7, 8, 9, 10, 11] rfl (ih I3 hz3)
                  · refine V_iconst 151 (1) rfl dX11_span_150 rfl ?_
                    refine V_goto 155 rfl dX11_span_151 ?_
                    refine V_iadd 156 dX11_span_155 rfl ?_
                    refine V_rw (show _ = (spG K f x3 D x1 n (i + 1)).2.2 from by show _ = _ + (if _ then _ else _); first | rw [if_neg c147] | rw [if_pos c147]) ?_
                    refine V_istore 158 [(8, .int ((spG K f x3 D x1 n (i + 1)).2.2)), (7, .int ((spG K f x3 D x1 n (i + 1)).2.1)), (6, .int ((spG K f x3 D x1 n (i + 1)).1)), (11, .int (sumF (spI K f x3 D x1 n i) 24 6)), (10, .int (nI i)), (9, .int (livB D 6)), (0, rf G 69), (1, .int x1), (2, .int (nI y)), (3, .int x3), (4, .int (nI n)), (5, .int (nI j))] (by decide) rfl dX11_span_156 rfl ?_
                    refine V_iinc 161 4 rfl (nI (i + 1)) [(10, .int (nI (i + 1))), (8, .int ((spG K f x3 D x1 n (i + 1)).2.2)), (7, .int ((spG K f x3 D x1 n (i + 1)).2.1)), (6, .int ((spG K f x3 D x1 n (i + 1)).1)), (11, .int (sumF (spI K f x3 D x1 n i) 24 6)), (9, .int (livB D 6)), (0, rf G 69), (1, .int x1), (2, .int (nI y)), (3, .int x3), (4, .int (nI n)), (5, .int (nI j))] (nI_1 _) (by decide) rfl dX11_span_158 rfl ?_
                    refine V_goto 72 rfl dX11_span_161 ?_
                    exact V_lv [0, 3, 2, 1, 5, 6, 7, 8, 9, 10, 11] rfl (ih I3 hz3)
              · refine V_iload 116 0 rfl dX11_span_114 rfl ?_
                refine V_goto 121 rfl dX11_span_116 ?_
                refine V_rw (show _ = (spG K f x3 D x1 n (i + 1)).1 from by show _ = if _ then _ else _; first | rw [if_pos (Or.inl c104)] | rw [if_pos (Or.inr (Int32.not_le.mp c111))] | rw [if_neg (fun h => h.elim c104 (fun h => absurd h (Int32.not_lt.mpr c111)))]) ?_
                refine V_istore 123 [(6, .int ((spG K f x3 D x1 n (i + 1)).1)), (11, .int (sumF (spI K f x3 D x1 n i) 24 6)), (10, .int (nI i)), (7, .int ((spG K f x3 D x1 n i).2.1)), (8, .int ((spG K f x3 D x1 n i).2.2)), (9, .int (livB D 6)), (0, rf G 69), (1, .int x1), (2, .int (nI y)), (3, .int x3), (4, .int (nI n)), (5, .int (nI j))] (by decide) rfl dX11_span_121 rfl ?_
                refine V_iload 125 1 rfl dX11_span_123 rfl ?_
                refine V_iload 127 3 rfl dX11_span_125 rfl ?_
                refine V_icmp_le 135 130 rfl dX11_span_127 rfl (fun c127 => ?_) (fun c127 => ?_)
                · refine V_iload 137 3 rfl dX11_span_135 rfl ?_
                  refine V_rw (show _ = (spG K f x3 D x1 n (i + 1)).2.1 from by show _ = if _ then _ else _; first | rw [if_neg (Int32.not_lt.mpr c127)] | rw [if_pos (Int32.not_le.mp c127)]) ?_
                  refine V_istore 139 [(7, .int ((spG K f x3 D x1 n (i + 1)).2.1)), (6, .int ((spG K f x3 D x1 n (i + 1)).1)), (11, .int (sumF (spI K f x3 D x1 n i) 24 6)), (10, .int (nI i)), (8, .int ((spG K f x3 D x1 n i).2.2)), (9, .int (livB D 6)), (0, rf G 69), (1, .int x1), (2, .int (nI y)), (3, .int x3), (4, .int (nI n)), (5, .int (nI j))] (by decide) rfl dX11_span_137 rfl ?_
                  refine V_iload 141 4 rfl dX11_span_139 rfl ?_
                  refine V_aload_n 142 6 rfl _ rfl rfl dX11_span_141 rfl ?_
                  refine V_callV (K' := 0) (S' := 0) 145 69 11 0 [] mkX11_livingNow lkX11_386 (by decide) rfl rfl (by decide) rfl (Nat.le_of_ble_eq_true rfl) (Nat.le_of_ble_eq_true rfl) (Nat.le_of_ble_eq_true rfl) (Nat.le_of_ble_eq_true rfl) rfl rfl dX11_span_142 rfl (c_X11_livingNow hRM hK3 h6 hM3 ?_)
                  rw [← livB_to (fun m a b => (hE.2.2.1 m a b).2.2.1) 6 h6 (Nat.le_refl _)]
                  refine Kq_i (k' := 0) (sl' := 0) rfl rfl ?_
                  refine V_iload 147 5 rfl dX11_span_145 rfl ?_
                  refine V_icmp_ne 154 150 rfl dX11_span_147 rfl (fun c147 => ?_) (fun c147 => ?_)
                  · refine V_iconst 155 (0) rfl dX11_span_154 rfl ?_
                    refine V_iadd 156 dX11_span_155 rfl ?_
                    refine V_rw (show _ = (spG K f x3 D x1 n (i + 1)).2.2 from by show _ = _ + (if _ then _ else _); first | rw [if_neg c147] | rw [if_pos c147]) ?_
                    refine V_istore 158 [(8, .int ((spG K f x3 D x1 n (i + 1)).2.2)), (7, .int ((spG K f x3 D x1 n (i + 1)).2.1)), (6, .int ((spG K f x3 D x1 n (i + 1)).1)), (11, .int (sumF (spI K f x3 D x1 n i) 24 6)), (10, .int (nI i)), (9, .int (livB D 6)), (0, rf G 69), (1, .int x1), (2, .int (nI y)), (3, .int x3), (4, .int (nI n)), (5, .int (nI j))] (by decide) rfl dX11_span_156 rfl ?_
                    refine V_iinc 161 4 rfl (nI (i + 1)) [(10, .int (nI (i + 1))), (8, .int ((spG K f x3 D x1 n (i + 1)).2.2)), (7, .int ((spG K f x3 D x1 n (i + 1)).2.1)), (6, .int ((spG K f x3 D x1 n (i + 1)).1)), (11, .int (sumF (spI K f x3 D x1 n i) 24 6)), (9, .int (livB D 6)), (0, rf G 69), (1, .int x1), (2, .int (nI y)), (3, .int x3), (4, .int (nI n)), (5, .int (nI j))] (nI_1 _) (by decide) rfl dX11_span_158 rfl ?_
                    refine V_goto 72 rfl dX11_span_161 ?_
                    exact V_lv [0, 3, 2, 1, 5, 6, 7, 8, 9, 10, 11] rfl (ih I3 hz3)
                  · refine V_iconst 151 (1) rfl dX11_span_150 rfl ?_
                    refine V_goto 155 rfl dX11_span_151 ?_
                    refine V_iadd 156 dX11_span_155 rfl ?_
                    refine V_rw (show _ = (spG K f x3 D x1 n (i + 1)).2.2 from by show _ = _ + (if _ then _ else _); first | rw [if_neg c147] | rw [if_pos c147]) ?_
                    refine V_istore 158 [(8, .int ((spG K f x3 D x1 n (i + 1)).2.2)), (7, .int ((spG K f x3 D x1 n (i + 1)).2.1)), (6, .int ((spG K f x3 D x1 n (i + 1)).1)), (11, .int (sumF (spI K f x3 D x1 n i) 24 6)), (10, .int (nI i)), (9, .int (livB D 6)), (0, rf G 69), (1, .int x1), (2, .int (nI y)), (3, .int x3), (4, .int (nI n)), (5, .int (nI j))] (by decide) rfl dX11_span_156 rfl ?_
                    refine V_iinc 161 4 rfl (nI (i + 1)) [(10, .int (nI (i + 1))), (8, .int ((spG K f x3 D x1 n (i + 1)).2.2)), (7, .int ((spG K f x3 D x1 n (i + 1)).2.1)), (6, .int ((spG K f x3 D x1 n (i + 1)).1)), (11, .int (sumF (spI K f x3 D x1 n i) 24 6)), (9, .int (livB D 6)), (0, rf G 69), (1, .int x1), (2, .int (nI y)), (3, .int x3), (4, .int (nI n)), (5, .int (nI j))] (nI_1 _) (by decide) rfl dX11_span_158 rfl ?_
                    refine V_goto 72 rfl dX11_span_161 ?_
                    exact V_lv [0, 3, 2, 1, 5, 6, 7, 8, 9, 10, 11] rfl (ih I3 hz3)
                · refine V_iload 132 1 rfl dX11_span_130 rfl ?_
                  refine V_goto 137 rfl dX11_span_132 ?_
                  refine V_rw (show _ = (spG K f x3 D x1 n (i + 1)).2.1 from by show _ = if _ then _ else _; first | rw [if_neg (Int32.not_lt.mpr c127)] | rw [if_pos (Int32.not_le.mp c127)]) ?_
                  refine V_istore 139 [(7, .int ((spG K f x3 D x1 n (i + 1)).2.1)), (6, .int ((spG K f x3 D x1 n (i + 1)).1)), (11, .int (sumF (spI K f x3 D x1 n i) 24 6)), (10, .int (nI i)), (8, .int ((spG K f x3 D x1 n i).2.2)), (9, .int (livB D 6)), (0, rf G 69), (1, .int x1), (2, .int (nI y)), (3, .int x3), (4, .int (nI n)), (5, .int (nI j))] (by decide) rfl dX11_span_137 rfl ?_
                  refine V_iload 141 4 rfl dX11_span_139 rfl ?_
                  refine V_aload_n 142 6 rfl _ rfl rfl dX11_span_141 rfl ?_
                  refine V_callV (K' := 0) (S' := 0) 145 69 11 0 [] mkX11_livingNow lkX11_386 (by decide) rfl rfl (by decide) rfl (Nat.le_of_ble_eq_true rfl) (Nat.le_of_ble_eq_true rfl) (Nat.le_of_ble_eq_true rfl) (Nat.le_of_ble_eq_true rfl) rfl rfl dX11_span_142 rfl (c_X11_livingNow hRM hK3 h6 hM3 ?_)
                  rw [← livB_to (fun m a b => (hE.2.2.1 m a b).2.2.1) 6 h6 (Nat.le_refl _)]
                  refine Kq_i (k' := 0) (sl' := 0) rfl rfl ?_
                  refine V_iload 147 5 rfl dX11_span_145 rfl ?_
                  refine V_icmp_ne 154 150 rfl dX11_span_147 rfl (fun c147 => ?_) (fun c147 => ?_)
                  · refine V_iconst 155 (0) rfl dX11_span_154 rfl ?_
                    refine V_iadd 156 dX11_span_155 rfl ?_
                    refine V_rw (show _ = (spG K f x3 D x1 n (i + 1)).2.2 from by show _ = _ + (if _ then _ else _); first | rw [if_neg c147] | rw [if_pos c147]) ?_
                    refine V_istore 158 [(8, .int ((spG K f x3 D x1 n (i + 1)).2.2)), (7, .int ((spG K f x3 D x1 n (i + 1)).2.1)), (6, .int ((spG K f x3 D x1 n (i + 1)).1)), (11, .int (sumF (spI K f x3 D x1 n i) 24 6)), (10, .int (nI i)), (9, .int (livB D 6)), (0, rf G 69), (1, .int x1), (2, .int (nI y)), (3, .int x3), (4, .int (nI n)), (5, .int (nI j))] (by decide) rfl dX11_span_156 rfl ?_
                    refine V_iinc 161 4 rfl (nI (i + 1)) [(10, .int (nI (i + 1))), (8, .int ((spG K f x3 D x1 n (i + 1)).2.2)), (7, .int ((spG K f x3 D x1 n (i + 1)).2.1)), (6, .int ((spG K f x3 D x1 n (i + 1)).1)), (11, .int (sumF (spI K f x3 D x1 n i) 24 6)), (9, .int (livB D 6)), (0, rf G 69), (1, .int x1), (2, .int (nI y)), (3, .int x3), (4, .int (nI n)), (5, .int (nI j))] (nI_1 _) (by decide) rfl dX11_span_158 rfl ?_
                    refine V_goto 72 rfl dX11_span_161 ?_
                    exact V_lv [0, 3, 2, 1, 5, 6, 7, 8, 9, 10, 11] rfl (ih I3 hz3)
                  · refine V_iconst 151 (1) rfl dX11_span_150 rfl ?_
                    refine V_goto 155 rfl dX11_span_151 ?_
                    refine V_iadd 156 dX11_span_155 rfl ?_
                    refine V_rw (show _ = (spG K f x3 D x1 n (i + 1)).2.2 from by show _ = _ + (if _ then _ else _); first | rw [if_neg c147] | rw [if_pos c147]) ?_
                    refine V_istore 158 [(8, .int ((spG K f x3 D x1 n (i + 1)).2.2)), (7, .int ((spG K f x3 D x1 n (i + 1)).2.1)), (6, .int ((spG K f x3 D x1 n (i + 1)).1)), (11, .int (sumF (spI K f x3 D x1 n i) 24 6)), (10, .int (nI i)), (9, .int (livB D 6)), (0, rf G 69), (1, .int x1), (2, .int (nI y)), (3, .int x3), (4, .int (nI n)), (5, .int (nI j))] (by decide) rfl dX11_span_156 rfl ?_
                    refine V_iinc 161 4 rfl (nI (i + 1)) [(10, .int (nI (i + 1))), (8, .int ((spG K f x3 D x1 n (i + 1)).2.2)), (7, .int ((spG K f x3 D x1 n (i + 1)).2.1)), (6, .int ((spG K f x3 D x1 n (i + 1)).1)), (11, .int (sumF (spI K f x3 D x1 n i) 24 6)), (9, .int (livB D 6)), (0, rf G 69), (1, .int x1), (2, .int (nI y)), (3, .int x3), (4, .int (nI n)), (5, .int (nI j))] (nI_1 _) (by decide) rfl dX11_span_158 rfl ?_
                    refine V_goto 72 rfl dX11_span_161 ?_
                    exact V_lv [0, 3, 2, 1, 5, 6, 7, 8, 9, 10, 11] rfl (ih I3 hz3)
        exact V_lv [0, 4, 3, 2, 1, 5, 6, 7, 8, 9, 10] rfl (L 0 (Nat.zero_le _) I1 hz1)
      · refine Kq_i (k' := 0) (sl' := 0) rfl rfl ?_
        rw [ckW_n a29] at hq
        refine V_if_eq 39 35 rfl dX11_span_32 rfl (fun c32 => ?_) (fun c32 => absurd c32 (by decide))
        refine V_iconst 40 (0) rfl dX11_span_39 rfl ?_
        refine V_iconst 41 (1) rfl dX11_span_40 rfl ?_
        refine V_iconst 42 (1) rfl dX11_span_41 rfl ?_
        refine V_callV (K' := 0) (S' := 0) 45 69 11 3 [.int 0, .int 1, .int 1] mkX11_may lkX11_216 (by decide) rfl rfl (by decide) rfl (Nat.le_of_ble_eq_true rfl) (Nat.le_of_ble_eq_true rfl) (Nat.le_of_ble_eq_true rfl) (Nat.le_of_ble_eq_true rfl) rfl rfl dX11_span_42 rfl (c_X11_may (cd := 1) (kd := 1) hRM (by decide) (by decide) (by decide) ht (fun e => absurd rfl e) (fun _ => ?_))
        refine Kq_i (k' := 0) (sl' := 0) rfl rfl ?_
        refine V_if_ne 50 48 rfl dX11_span_45 rfl (fun c45 => absurd c45 (by decide)) (fun c45 => ?_)
        refine V_iconst 49 (0) rfl dX11_span_48 rfl ?_
        refine V_ret_i rfl rfl (Nat.le_of_ble_eq_true rfl) (fun h => absurd h (by decide)) (Nat.le_of_ble_eq_true rfl) (hq.x hI0 rfl) dX11_span_49
    · refine Kq_i (k' := 0) (sl' := 0) rfl rfl ?_
      rw [ckW2_n a19] at hq
      refine V_if_eq 39 25 rfl dX11_span_22 rfl (fun c22 => ?_) (fun c22 => absurd c22 (by decide))
      refine V_iconst 40 (0) rfl dX11_span_39 rfl ?_
      refine V_iconst 41 (1) rfl dX11_span_40 rfl ?_
      refine V_iconst 42 (1) rfl dX11_span_41 rfl ?_
      refine V_callV (K' := 0) (S' := 0) 45 69 11 3 [.int 0, .int 1, .int 1] mkX11_may lkX11_216 (by decide) rfl rfl (by decide) rfl (Nat.le_of_ble_eq_true rfl) (Nat.le_of_ble_eq_true rfl) (Nat.le_of_ble_eq_true rfl) (Nat.le_of_ble_eq_true rfl) rfl rfl dX11_span_42 rfl (c_X11_may (cd := 1) (kd := 1) hRM (by decide) (by decide) (by decide) ht (fun e => absurd rfl e) (fun _ => ?_))
      refine Kq_i (k' := 0) (sl' := 0) rfl rfl ?_
      refine V_if_ne 50 48 rfl dX11_span_45 rfl (fun c45 => absurd c45 (by decide)) (fun c45 => ?_)
      refine V_iconst 49 (0) rfl dX11_span_48 rfl ?_
      refine V_ret_i rfl rfl (Nat.le_of_ble_eq_true rfl) (fun h => absurd h (by decide)) (Nat.le_of_ble_eq_true rfl) (hq.x hI0 rfl) dX11_span_49
  · refine Kq_i (k' := 0) (sl' := 0) rfl rfl ?_
    rw [ckW_n a10] at hq
    refine V_if_eq 39 16 rfl dX11_span_13 rfl (fun c13 => ?_) (fun c13 => absurd c13 (by decide))
    refine V_iconst 40 (0) rfl dX11_span_39 rfl ?_
    refine V_iconst 41 (1) rfl dX11_span_40 rfl ?_
    refine V_iconst 42 (1) rfl dX11_span_41 rfl ?_
    refine V_callV (K' := 0) (S' := 0) 45 69 11 3 [.int 0, .int 1, .int 1] mkX11_may lkX11_216 (by decide) rfl rfl (by decide) rfl (Nat.le_of_ble_eq_true rfl) (Nat.le_of_ble_eq_true rfl) (Nat.le_of_ble_eq_true rfl) (Nat.le_of_ble_eq_true rfl) rfl rfl dX11_span_42 rfl (c_X11_may (cd := 1) (kd := 1) hRM (by decide) (by decide) (by decide) ht (fun e => absurd rfl e) (fun _ => ?_))
    refine Kq_i (k' := 0) (sl' := 0) rfl rfl ?_
    refine V_if_ne 50 48 rfl dX11_span_45 rfl (fun c45 => absurd c45 (by decide)) (fun c45 => ?_)
    refine V_iconst 49 (0) rfl dX11_span_48 rfl ?_
    refine V_ret_i rfl rfl (Nat.le_of_ble_eq_true rfl) (fun h => absurd h (by decide)) (Nat.le_of_ble_eq_true rfl) (hq.x hI0 rfl) dX11_span_49
