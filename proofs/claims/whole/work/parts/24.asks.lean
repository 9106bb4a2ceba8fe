/-! ===== refusals; what is asked at once ===== -/
def Ix (x : Int32) (c : Nat) : Prop := ∃ j, j < c ∧ x = nI j
theorem Ix.lt {x : Int32} {c : Nat} (hc : c < 2 ^ 30) (h1 : ¬ x < 0) (h2 : x < nI c) : Ix x c := by
  obtain ⟨j, hj, rfl⟩ := nI_of h1
  exact ⟨j, (nI_ltI hj (by omega)).mp h2, rfl⟩
theorem Ix.of {x : Int32} {c : Nat} (hc : c < 2 ^ 30) (h : Ix x c) : ¬ x < 0 ∧ x < nI c := by
  obtain ⟨j, hj, rfl⟩ := h
  exact ⟨nI_pos (by omega), nI_lt hj (by omega)⟩
theorem Ix.w {x : Int32} {c : Nat} (hc : c < 2 ^ 30) : (0 ≤ x ∧ x ≤ nI c - 1) ↔ Ix x c := by
  have e : (nI c - 1).toInt = (c : Int) - 1 := pk_sub_toInt (a := c) (b := 1) hc (by decide)
  constructor
  · rintro ⟨h1, h2⟩
    obtain ⟨j, hj, rfl⟩ := nI_of (Int32.not_lt.mpr h1)
    have h3 := Int32.le_iff_toInt_le.mp h2
    rw [nI_toInt hj, e] at h3
    exact ⟨j, by omega, rfl⟩
  · rintro ⟨j, hj, rfl⟩
    refine ⟨nI_pos' (by omega), Int32.le_iff_toInt_le.mpr ?_⟩
    rw [nI_toInt (by omega), e]; omega
abbrev thN : List String := ["java/lang/RuntimeException", "java/lang/Exception"]
set_option maxRecDepth 100000 in
theorem th1a : ∀ w ∈ vx_atS (mY mX10_needWithin).cls 373 (exN 1) thN, w ∈ lw_tbl := by decide +kernel
theorem th1b : (vx_atS (mY mX10_needWithin).cls 373 (exN 1) thN).all (fun w => goodWord w || isX w) = true := by decide +kernel
theorem th1k : Cond.classLink (mY mX10_needWithin).cls 369 (exN 1) ∈ TSg ∧ Cond.initialized (exN 1) ∈ TSg := ⟨(TSg_at 595 (by decide +kernel) rfl), (TSg_at 110 (by decide +kernel) rfl)⟩
theorem thF : ∀ x ∈ thN, Bundle.fit x = true := by decide +kernel
theorem c_X10_needWithin {G : Gx} {d : Nat} {I : FI} {R : FR} {J : FJ} {Q : Po} {x lo hi : Int32} (h1 : lo ≤ x → x ≤ hi → Q (.inl none) 103 I R J) (h0 : ¬ (lo ≤ x ∧ x ≤ hi) → Q (.inr 1) 103 (up2 I 0 14 (I 0 14 + 1)) R J) : Cc G mX10_needWithin d 1 6 [rf G 0, .int x, .int lo, .int hi] 103 I R J Q := by
  show V _ _ _ _ _ _ _ _ [(0, rf G 0), (1, .int x), (2, .int lo), (3, .int hi)] [] _ _ _ _ _
  refine V_iload_n 1 1 rfl rfl dX10_needWithin_0 rfl ?_
  refine V_iload_n 2 2 rfl rfl dX10_needWithin_1 rfl ?_
  refine V_icmp_lt 10 5 rfl dX10_needWithin_2 rfl (fun c2 => ?_) (fun c2 => ?_)
  · refine V_aload_n 11 0 rfl _ rfl rfl dX10_needWithin_10 rfl ?_
    refine V_dup 12 rfl dX10_needWithin_11 rfl ?_
    refine V_getI 15 0 10 14 (I 0 14) rfl flX10_359 rfl rfl rfl (by decide) dX10_needWithin_12 rfl ?_
    refine V_iconst 16 (1) rfl dX10_needWithin_15 rfl ?_
    refine V_iadd 17 dX10_needWithin_16 rfl ?_
    refine V_putI 20 0 10 14 flX10_359 rfl rfl rfl (by decide) rfl dX10_needWithin_17 rfl ?_
    refine V_throw (ik := 369) (is := 371) (ic := 373) 1 0 _ thN (by decide +kernel) thF (by decide) th1k.1 th1k.2 rfl th1a th1b rfl (Nat.le_of_ble_eq_true rfl) (by decide) (by decide) (h0 (fun q => absurd c2 (Int32.not_lt.mpr q.1))) dX10_needWithin_20 dX10_needWithin_23 dX10_needWithin_24 dX10_needWithin_27 dX10_needWithin_30
  · refine V_iload_n 6 1 rfl rfl dX10_needWithin_5 rfl ?_
    refine V_iload_n 7 3 rfl rfl dX10_needWithin_6 rfl ?_
    refine V_icmp_le 31 10 rfl dX10_needWithin_7 rfl (fun c7 => ?_) (fun c7 => ?_)
    · refine V_ret_v rfl (Nat.le_of_ble_eq_true rfl) (fun h => absurd h (by decide)) (Nat.le_of_ble_eq_true rfl) (h1 (Int32.not_lt.mp c2) c7) dX10_needWithin_31
    · refine V_aload_n 11 0 rfl _ rfl rfl dX10_needWithin_10 rfl ?_
      refine V_dup 12 rfl dX10_needWithin_11 rfl ?_
      refine V_getI 15 0 10 14 (I 0 14) rfl flX10_359 rfl rfl rfl (by decide) dX10_needWithin_12 rfl ?_
      refine V_iconst 16 (1) rfl dX10_needWithin_15 rfl ?_
      refine V_iadd 17 dX10_needWithin_16 rfl ?_
      refine V_putI 20 0 10 14 flX10_359 rfl rfl rfl (by decide) rfl dX10_needWithin_17 rfl ?_
      refine V_throw (ik := 369) (is := 371) (ic := 373) 1 0 _ thN (by decide +kernel) thF (by decide) th1k.1 th1k.2 rfl th1a th1b rfl (Nat.le_of_ble_eq_true rfl) (by decide) (by decide) (h0 (fun q => c7 q.2)) dX10_needWithin_20 dX10_needWithin_23 dX10_needWithin_24 dX10_needWithin_27 dX10_needWithin_30
set_option maxHeartbeats 4000000 in
theorem c_X11_may {G : Gx} {d : Nat} {I : FI} {R : FR} {J : FJ} {Q : Po} (hRM : ∀ k, R 69 k = refM k) {g : Int32} {cd kd : Nat} (hcd : 0 < cd) (hcd9 : cd < 9) (hkd : kd < 2) (ht : I 69 0 = 0) (h1 : ¬ g = 0 → Q (.inl (some (.int 1))) 103 I R J) (h0 : g = 0 → Q (.inl (some (.int 0))) 103 (up2 (up2 I 69 0 (nI cd)) 70 kd (I 70 kd + 1)) R J) : Cc G mX11_may d 0 0 [rf G 69, .int g, .int (nI cd), .int (nI kd)] 103 I R J Q := by
  show V _ _ _ _ _ _ _ _ [(0, rf G 69), (1, .int g), (2, .int (nI cd)), (3, .int (nI kd))] [] _ _ _ _ _
  refine V_iload_n 1 1 rfl rfl dX11_may_0 rfl ?_
  refine V_if_ne 26 4 rfl dX11_may_1 rfl (fun c1 => ?_) (fun c1 => ?_)
  · refine V_aload_n 27 0 rfl _ rfl rfl dX11_may_26 rfl ?_
    refine V_getI 30 69 11 0 0 ht flX11_3 rfl rfl rfl (by decide) dX11_may_27 rfl ?_
    refine V_if_ne 37 33 rfl dX11_may_30 rfl (fun c30 => absurd c30 (by decide)) (fun c30 => ?_)
    refine V_iconst 34 (1) rfl dX11_may_33 rfl ?_
    refine V_goto 38 rfl dX11_may_34 ?_
    refine V_ret_i rfl (by first | rfl | decide) (Nat.le_of_ble_eq_true rfl) (fun h => absurd h (by decide)) (Nat.le_of_ble_eq_true rfl) (h1 c1) dX11_may_38
  · refine V_aload_n 5 0 rfl _ rfl rfl dX11_may_4 rfl ?_
    refine V_getI 8 69 11 0 0 ht flX11_3 rfl rfl rfl (by decide) dX11_may_5 rfl ?_
    refine V_if_ne 26 11 rfl dX11_may_8 rfl (fun c8 => absurd c8 (by decide)) (fun c8 => ?_)
    refine V_aload_n 12 0 rfl _ rfl rfl dX11_may_11 rfl ?_
    refine V_iload_n 13 2 rfl rfl dX11_may_12 rfl ?_
    refine V_putI 16 69 11 0 flX11_3 rfl rfl rfl (by decide) rfl dX11_may_13 rfl ?_
    refine V_aload_n 17 0 rfl _ rfl rfl dX11_may_16 rfl ?_
    refine V_getR 20 69 11 1 70 (hRM 1) flX11_7 rfl rfl rfl (by decide) dX11_may_17 rfl ?_
    refine V_iload_n 21 3 rfl rfl dX11_may_20 rfl ?_
    refine V_dup2 22 rfl rfl dX11_may_21 rfl ?_
    refine V_ialdN 23 70 2 kd (I 70 kd) rfl hkd (by decide) rfl (by decide) dX11_may_22 rfl ?_
    refine V_iconst 24 (1) rfl dX11_may_23 rfl ?_
    refine V_iadd 25 dX11_may_24 rfl ?_
    refine V_iastN 26 70 2 kd hkd (by decide) rfl (by decide) dX11_may_25 rfl ?_
    refine V_aload_n 27 0 rfl _ rfl rfl dX11_may_26 rfl ?_
    refine V_getI 30 69 11 0 (nI cd) rfl flX11_3 rfl rfl rfl (by decide) dX11_may_27 rfl ?_
    refine V_if_ne 37 33 rfl dX11_may_30 rfl (fun c30 => ?_) (fun c30 => absurd c30 (nI_ne0 hcd (by omega)))
    refine V_iconst 38 (0) rfl dX11_may_37 rfl ?_
    refine V_ret_i rfl (by first | rfl | decide) (Nat.le_of_ble_eq_true rfl) (fun h => absurd h (by decide)) (Nat.le_of_ble_eq_true rfl) (h0 c1) dX11_may_38
set_option maxHeartbeats 4000000 in
theorem c_X11_isHat {G : Gx} {d : Nat} {I : FI} {R : FR} {J : FJ} {Q : Po} (hRM : ∀ k, R 69 k = refM k) {x : Int32} {c cd : Nat} (hc : c < 2 ^ 30) (hk : I 69 21 = nI c) (hcd : 0 < cd) (hcd9 : cd < 9) (ht : I 69 0 = 0) (h1 : Ix x c → Q (.inl (some (.int 1))) 103 I R J) (h0 : ¬ Ix x c → Q (.inl (some (.int 0))) 103 (up2 (up2 I 69 0 (nI cd)) 70 0 (I 70 0 + 1)) R J) : Cc G mX11_isHat (d + 1) 0 0 [rf G 69, .int x, .int (nI cd)] 103 I R J Q := by
  show V _ _ _ _ _ _ _ _ [(0, rf G 69), (1, .int x), (2, .int (nI cd))] [] _ _ _ _ _
  refine V_aload_n 1 0 rfl _ rfl rfl dX11_isHat_0 rfl ?_
  refine V_iload_n 2 1 rfl rfl dX11_isHat_1 rfl ?_
  refine V_iconst 3 (0) rfl dX11_isHat_2 rfl ?_
  refine V_aload_n 4 0 rfl _ rfl rfl dX11_isHat_3 rfl ?_
  refine V_getI 7 69 11 21 (nI c) hk flX11_175 rfl rfl rfl (by decide) dX11_isHat_4 rfl ?_
  refine V_iconst 8 (1) rfl dX11_isHat_7 rfl ?_
  refine V_isub 9 dX11_isHat_8 rfl ?_
  refine V_callS (K' := 0) (S' := 0) 12 3 [.int x, .int 0, .int ((nI c) - 1)] mkX11_within lkX11_383 rfl (Nat.le_of_ble_eq_true rfl) (Nat.le_of_ble_eq_true rfl) (Nat.le_of_ble_eq_true rfl) (Nat.le_of_ble_eq_true rfl) rfl rfl dX11_isHat_9 rfl (c_X11_within (fun a1 a2 => ?_) (fun a1 => ?_))
  · refine Kq_i (k' := 0) (sl' := 0) rfl rfl ?_
    refine V_iload_n 13 2 rfl rfl dX11_isHat_12 rfl ?_
    refine V_iconst 14 (0) rfl dX11_isHat_13 rfl ?_
    refine V_callV (K' := 0) (S' := 0) 17 69 11 3 [.int 1, .int (nI cd), .int 0] mkX11_may lkX11_216 (by decide) rfl rfl (by decide) rfl (Nat.le_of_ble_eq_true rfl) (Nat.le_of_ble_eq_true rfl) (Nat.le_of_ble_eq_true rfl) (Nat.le_of_ble_eq_true rfl) rfl rfl dX11_isHat_14 rfl (c_X11_may hRM hcd hcd9 (by decide) ht (fun e2 => ?_) (fun e2 => ?_))
    · refine Kq_i (k' := 0) (sl' := 0) rfl rfl ?_
      refine V_ret_i rfl (by first | rfl | decide) (Nat.le_of_ble_eq_true rfl) (fun h => absurd h (by decide)) (Nat.le_of_ble_eq_true rfl) (by first | exact h1 ((Ix.w hc).mp ⟨a1, a2⟩) | exact absurd rfl e2) dX11_isHat_17
    · refine Kq_i (k' := 0) (sl' := 0) rfl rfl ?_
      refine V_ret_i rfl (by first | rfl | decide) (Nat.le_of_ble_eq_true rfl) (fun h => absurd h (by decide)) (Nat.le_of_ble_eq_true rfl) (by first | exact absurd e2 (by decide) | exact h0 (fun q => a1 ((Ix.w hc).mpr q))) dX11_isHat_17
  · refine Kq_i (k' := 0) (sl' := 0) rfl rfl ?_
    refine V_iload_n 13 2 rfl rfl dX11_isHat_12 rfl ?_
    refine V_iconst 14 (0) rfl dX11_isHat_13 rfl ?_
    refine V_callV (K' := 0) (S' := 0) 17 69 11 3 [.int 0, .int (nI cd), .int 0] mkX11_may lkX11_216 (by decide) rfl rfl (by decide) rfl (Nat.le_of_ble_eq_true rfl) (Nat.le_of_ble_eq_true rfl) (Nat.le_of_ble_eq_true rfl) (Nat.le_of_ble_eq_true rfl) rfl rfl dX11_isHat_14 rfl (c_X11_may hRM hcd hcd9 (by decide) ht (fun e2 => ?_) (fun e2 => ?_))
    · refine Kq_i (k' := 0) (sl' := 0) rfl rfl ?_
      refine V_ret_i rfl (by first | rfl | decide) (Nat.le_of_ble_eq_true rfl) (fun h => absurd h (by decide)) (Nat.le_of_ble_eq_true rfl) (by first | exact h1 ((Ix.w hc).mp ⟨a1, a2⟩) | exact absurd rfl e2) dX11_isHat_17
    · refine Kq_i (k' := 0) (sl' := 0) rfl rfl ?_
      refine V_ret_i rfl (by first | rfl | decide) (Nat.le_of_ble_eq_true rfl) (fun h => absurd h (by decide)) (Nat.le_of_ble_eq_true rfl) (by first | exact absurd e2 (by decide) | exact h0 (fun q => a1 ((Ix.w hc).mpr q))) dX11_isHat_17
set_option maxHeartbeats 4000000 in
theorem c_X11_isGround {G : Gx} {d : Nat} {I : FI} {R : FR} {J : FJ} {Q : Po} (hRM : ∀ k, R 69 k = refM k) {x : Int32} {c cd : Nat} (hc : c < 2 ^ 30) (hk : I 69 22 = nI c) (hcd : 0 < cd) (hcd9 : cd < 9) (ht : I 69 0 = 0) (h1 : Ix x c → Q (.inl (some (.int 1))) 103 I R J) (h0 : ¬ Ix x c → Q (.inl (some (.int 0))) 103 (up2 (up2 I 69 0 (nI cd)) 70 0 (I 70 0 + 1)) R J) : Cc G mX11_isGround (d + 1) 0 0 [rf G 69, .int x, .int (nI cd)] 103 I R J Q := by
  show V _ _ _ _ _ _ _ _ [(0, rf G 69), (1, .int x), (2, .int (nI cd))] [] _ _ _ _ _
  refine V_aload_n 1 0 rfl _ rfl rfl dX11_isGround_0 rfl ?_
  refine V_iload_n 2 1 rfl rfl dX11_isGround_1 rfl ?_
  refine V_iconst 3 (0) rfl dX11_isGround_2 rfl ?_
  refine V_aload_n 4 0 rfl _ rfl rfl dX11_isGround_3 rfl ?_
  refine V_getI 7 69 11 22 (nI c) hk flX11_178 rfl rfl rfl (by decide) dX11_isGround_4 rfl ?_
  refine V_iconst 8 (1) rfl dX11_isGround_7 rfl ?_
  refine V_isub 9 dX11_isGround_8 rfl ?_
  refine V_callS (K' := 0) (S' := 0) 12 3 [.int x, .int 0, .int ((nI c) - 1)] mkX11_within lkX11_383 rfl (Nat.le_of_ble_eq_true rfl) (Nat.le_of_ble_eq_true rfl) (Nat.le_of_ble_eq_true rfl) (Nat.le_of_ble_eq_true rfl) rfl rfl dX11_isGround_9 rfl (c_X11_within (fun a1 a2 => ?_) (fun a1 => ?_))
  · refine Kq_i (k' := 0) (sl' := 0) rfl rfl ?_
    refine V_iload_n 13 2 rfl rfl dX11_isGround_12 rfl ?_
    refine V_iconst 14 (0) rfl dX11_isGround_13 rfl ?_
    refine V_callV (K' := 0) (S' := 0) 17 69 11 3 [.int 1, .int (nI cd), .int 0] mkX11_may lkX11_216 (by decide) rfl rfl (by decide) rfl (Nat.le_of_ble_eq_true rfl) (Nat.le_of_ble_eq_true rfl) (Nat.le_of_ble_eq_true rfl) (Nat.le_of_ble_eq_true rfl) rfl rfl dX11_isGround_14 rfl (c_X11_may hRM hcd hcd9 (by decide) ht (fun e2 => ?_) (fun e2 => ?_))
    · refine Kq_i (k' := 0) (sl' := 0) rfl rfl ?_
      refine V_ret_i rfl (by first | rfl | decide) (Nat.le_of_ble_eq_true rfl) (fun h => absurd h (by decide)) (Nat.le_of_ble_eq_true rfl) (by first | exact h1 ((Ix.w hc).mp ⟨a1, a2⟩) | exact absurd rfl e2) dX11_isGround_17
    · refine Kq_i (k' := 0) (sl' := 0) rfl rfl ?_
      refine V_ret_i rfl (by first | rfl | decide) (Nat.le_of_ble_eq_true rfl) (fun h => absurd h (by decide)) (Nat.le_of_ble_eq_true rfl) (by first | exact absurd e2 (by decide) | exact h0 (fun q => a1 ((Ix.w hc).mpr q))) dX11_isGround_17
  · refine Kq_i (k' := 0) (sl' := 0) rfl rfl ?_
    refine V_iload_n 13 2 rfl rfl dX11_isGround_12 rfl ?_
    refine V_iconst 14 (0) rfl dX11_isGround_13 rfl ?_
    refine V_callV (K' := 0) (S' := 0) 17 69 11 3 [.int 0, .int (nI cd), .int 0] mkX11_may lkX11_216 (by decide) rfl rfl (by decide) rfl (Nat.le_of_ble_eq_true rfl) (Nat.le_of_ble_eq_true rfl) (Nat.le_of_ble_eq_true rfl) (Nat.le_of_ble_eq_true rfl) rfl rfl dX11_isGround_14 rfl (c_X11_may hRM hcd hcd9 (by decide) ht (fun e2 => ?_) (fun e2 => ?_))
    · refine Kq_i (k' := 0) (sl' := 0) rfl rfl ?_
      refine V_ret_i rfl (by first | rfl | decide) (Nat.le_of_ble_eq_true rfl) (fun h => absurd h (by decide)) (Nat.le_of_ble_eq_true rfl) (by first | exact h1 ((Ix.w hc).mp ⟨a1, a2⟩) | exact absurd rfl e2) dX11_isGround_17
    · refine Kq_i (k' := 0) (sl' := 0) rfl rfl ?_
      refine V_ret_i rfl (by first | rfl | decide) (Nat.le_of_ble_eq_true rfl) (fun h => absurd h (by decide)) (Nat.le_of_ble_eq_true rfl) (by first | exact absurd e2 (by decide) | exact h0 (fun q => a1 ((Ix.w hc).mpr q))) dX11_isGround_17
set_option maxHeartbeats 4000000 in
theorem c_X11_isMan {G : Gx} {d : Nat} {I : FI} {R : FR} {J : FJ} {Q : Po} (hRM : ∀ k, R 69 k = refM k) {x : Int32} {c cd : Nat} (hc : c < 2 ^ 30) (hk : I 69 23 = nI c) (hcd : 0 < cd) (hcd9 : cd < 9) (ht : I 69 0 = 0) (h1 : Ix x c → Q (.inl (some (.int 1))) 103 I R J) (h0 : ¬ Ix x c → Q (.inl (some (.int 0))) 103 (up2 (up2 I 69 0 (nI cd)) 70 0 (I 70 0 + 1)) R J) : Cc G mX11_isMan (d + 1) 0 0 [rf G 69, .int x, .int (nI cd)] 103 I R J Q := by
  show V _ _ _ _ _ _ _ _ [(0, rf G 69), (1, .int x), (2, .int (nI cd))] [] _ _ _ _ _
  refine V_aload_n 1 0 rfl _ rfl rfl dX11_isMan_0 rfl ?_
  refine V_iload_n 2 1 rfl rfl dX11_isMan_1 rfl ?_
  refine V_iconst 3 (0) rfl dX11_isMan_2 rfl ?_
  refine V_aload_n 4 0 rfl _ rfl rfl dX11_isMan_3 rfl ?_
  refine V_getI 7 69 11 23 (nI c) hk flX11_181 rfl rfl rfl (by decide) dX11_isMan_4 rfl ?_
  refine V_iconst 8 (1) rfl dX11_isMan_7 rfl ?_
  refine V_isub 9 dX11_isMan_8 rfl ?_
  refine V_callS (K' := 0) (S' := 0) 12 3 [.int x, .int 0, .int ((nI c) - 1)] mkX11_within lkX11_383 rfl (Nat.le_of_ble_eq_true rfl) (Nat.le_of_ble_eq_true rfl) (Nat.le_of_ble_eq_true rfl) (Nat.le_of_ble_eq_true rfl) rfl rfl dX11_isMan_9 rfl (c_X11_within (fun a1 a2 => ?_) (fun a1 => ?_))
  · refine Kq_i (k' := 0) (sl' := 0) rfl rfl ?_
    refine V_iload_n 13 2 rfl rfl dX11_isMan_12 rfl ?_
    refine V_iconst 14 (0) rfl dX11_isMan_13 rfl ?_
    refine V_callV (K' := 0) (S' := 0) 17 69 11 3 [.int 1, .int (nI cd), .int 0] mkX11_may lkX11_216 (by decide) rfl rfl (by decide) rfl (Nat.le_of_ble_eq_true rfl) (Nat.le_of_ble_eq_true rfl) (Nat.le_of_ble_eq_true rfl) (Nat.le_of_ble_eq_true rfl) rfl rfl dX11_isMan_14 rfl (c_X11_may hRM hcd hcd9 (by decide) ht (fun e2 => ?_) (fun e2 => ?_))
    · refine Kq_i (k' := 0) (sl' := 0) rfl rfl ?_
      refine V_ret_i rfl (by first | rfl | decide) (Nat.le_of_ble_eq_true rfl) (fun h => absurd h (by decide)) (Nat.le_of_ble_eq_true rfl) (by first | exact h1 ((Ix.w hc).mp ⟨a1, a2⟩) | exact absurd rfl e2) dX11_isMan_17
    · refine Kq_i (k' := 0) (sl' := 0) rfl rfl ?_
      refine V_ret_i rfl (by first | rfl | decide) (Nat.le_of_ble_eq_true rfl) (fun h => absurd h (by decide)) (Nat.le_of_ble_eq_true rfl) (by first | exact absurd e2 (by decide) | exact h0 (fun q => a1 ((Ix.w hc).mpr q))) dX11_isMan_17
  · refine Kq_i (k' := 0) (sl' := 0) rfl rfl ?_
    refine V_iload_n 13 2 rfl rfl dX11_isMan_12 rfl ?_
    refine V_iconst 14 (0) rfl dX11_isMan_13 rfl ?_
    refine V_callV (K' := 0) (S' := 0) 17 69 11 3 [.int 0, .int (nI cd), .int 0] mkX11_may lkX11_216 (by decide) rfl rfl (by decide) rfl (Nat.le_of_ble_eq_true rfl) (Nat.le_of_ble_eq_true rfl) (Nat.le_of_ble_eq_true rfl) (Nat.le_of_ble_eq_true rfl) rfl rfl dX11_isMan_14 rfl (c_X11_may hRM hcd hcd9 (by decide) ht (fun e2 => ?_) (fun e2 => ?_))
    · refine Kq_i (k' := 0) (sl' := 0) rfl rfl ?_
      refine V_ret_i rfl (by first | rfl | decide) (Nat.le_of_ble_eq_true rfl) (fun h => absurd h (by decide)) (Nat.le_of_ble_eq_true rfl) (by first | exact h1 ((Ix.w hc).mp ⟨a1, a2⟩) | exact absurd rfl e2) dX11_isMan_17
    · refine Kq_i (k' := 0) (sl' := 0) rfl rfl ?_
      refine V_ret_i rfl (by first | rfl | decide) (Nat.le_of_ble_eq_true rfl) (fun h => absurd h (by decide)) (Nat.le_of_ble_eq_true rfl) (by first | exact absurd e2 (by decide) | exact h0 (fun q => a1 ((Ix.w hc).mpr q))) dX11_isMan_17
def cpF (f g : DV) (z : Nat) : DV := fun j => if j < z then f j else g j
theorem cpF_s {f g : DV} {i : Nat} : upd (cpF f g i) i (f i) = cpF f g (i + 1) := by
  funext j
  by_cases e : j = i
  · subst e; rw [upd_s]; exact (if_pos (Nat.lt_succ_self j)).symm
  · rw [upd_n e]
    show (if j < i then f j else g j) = (if j < i + 1 then f j else g j)
    by_cases h : j < i
    · rw [if_pos h, if_pos (by omega)]
    · rw [if_neg h, if_neg (by omega)]
theorem upA_s {I : FI} {a : Nat} {f : DV} : upA I a f a = f := if_pos rfl
theorem upA_n {I : FI} {a b : Nat} {f : DV} (h : b ≠ a) : upA I a f b = I b := if_neg h
theorem upA_cp0 {I : FI} {a : Nat} {f : DV} : I = upA I a (cpF f (I a) 0) := by
  funext b
  by_cases h : b = a
  · subst h; rw [upA_s]; rfl
  · rw [upA_n h]
set_option maxHeartbeats 4000000 in
theorem c_X11_copies_88_89 {G : Gx} {d : Nat} {I : FI} {R : FR} {J : FJ} {Q : Po} (hRM : ∀ k, R 69 k = refM k) {z : Nat} (hz : z ≤ 51) (hq : Q (.inl none) 103 (upA I 89 (cpF (I 88) (I 89) z)) R J) : Cc G mX11_copies d 0 0 [rf G 69, rf G 88, rf G 89, .int (nI z)] 103 I R J Q := by
  have L : ∀ i, i ≤ z → V G mX11_copies d 0 0 0 0 3 [(4, .int (nI i)), (1, rf G 88), (2, rf G 89), (3, .int (nI z))] [] 103 (upA I 89 (cpF (I 88) (I 89) i)) R J Q := by
    refine loopd z ?_ (fun i hi ih => ?_)
    · refine V_iload 5 0 rfl dX11_copies_3 rfl ?_
      refine V_iload_n 6 3 rfl rfl dX11_copies_5 rfl ?_
      refine V_icmp_ge 23 9 rfl dX11_copies_6 rfl (fun c6 => ?_) (fun c6 => absurd (Int32.le_refl _) c6)
      refine V_ret_v rfl (Nat.le_of_ble_eq_true rfl) (fun h => absurd h (by decide)) (Nat.le_of_ble_eq_true rfl) (hq) dX11_copies_23
    · refine V_iload 5 0 rfl dX11_copies_3 rfl ?_
      refine V_iload_n 6 3 rfl rfl dX11_copies_5 rfl ?_
      refine V_icmp_ge 23 9 rfl dX11_copies_6 rfl (fun c6 => absurd c6 (nI_ge hi (by omega))) (fun c6 => ?_)
      refine V_aload_n 10 2 rfl _ rfl rfl dX11_copies_9 rfl ?_
      refine V_iload 12 0 rfl dX11_copies_10 rfl ?_
      refine V_aload_n 13 1 rfl _ rfl rfl dX11_copies_12 rfl ?_
      refine V_iload 15 0 rfl dX11_copies_13 rfl ?_
      refine V_ialdN 16 88 51 i (I 88 i) rfl (by omega) (by decide) rfl (by decide) dX11_copies_15 rfl ?_
      refine V_iastN 17 89 51 i (by omega) (by decide) rfl (by decide) dX11_copies_16 rfl ?_
      refine V_iinc 20 0 rfl (nI (i + 1)) [(4, .int (nI (i + 1))), (1, rf G 88), (2, rf G 89), (3, .int (nI z))] (nI_1 _) (by decide) rfl dX11_copies_17 rfl ?_
      refine V_goto 3 rfl dX11_copies_20 ?_
      rw [upA_u, cpF_s]
      exact V_lv [0, 1, 2, 3] rfl ih
  show V _ _ _ _ _ _ _ _ [(0, rf G 69), (1, rf G 88), (2, rf G 89), (3, .int (nI z))] [] _ _ _ _ _
  have e0 : I = upA I 89 (cpF (I 88) (I 89) 0) := upA_cp0
  refine V_iconst 1 (0) rfl dX11_copies_0 rfl ?_
  refine V_istore 3 [(4, .int 0), (0, rf G 69), (1, rf G 88), (2, rf G 89), (3, .int (nI z))] (by decide) rfl dX11_copies_1 rfl ?_
  refine V_rwI e0 ?_
  exact V_lv [0, 2, 3, 4] rfl (L 0 (Nat.zero_le _))
set_option maxHeartbeats 4000000 in
theorem c_X11_copies_89_88 {G : Gx} {d : Nat} {I : FI} {R : FR} {J : FJ} {Q : Po} (hRM : ∀ k, R 69 k = refM k) {z : Nat} (hz : z ≤ 51) (hq : Q (.inl none) 103 (upA I 88 (cpF (I 89) (I 88) z)) R J) : Cc G mX11_copies d 0 0 [rf G 69, rf G 89, rf G 88, .int (nI z)] 103 I R J Q := by
  have L : ∀ i, i ≤ z → V G mX11_copies d 0 0 0 0 3 [(4, .int (nI i)), (1, rf G 89), (2, rf G 88), (3, .int (nI z))] [] 103 (upA I 88 (cpF (I 89) (I 88) i)) R J Q := by
    refine loopd z ?_ (fun i hi ih => ?_)
    · refine V_iload 5 0 rfl dX11_copies_3 rfl ?_
      refine V_iload_n 6 3 rfl rfl dX11_copies_5 rfl ?_
      refine V_icmp_ge 23 9 rfl dX11_copies_6 rfl (fun c6 => ?_) (fun c6 => absurd (Int32.le_refl _) c6)
      refine V_ret_v rfl (Nat.le_of_ble_eq_true rfl) (fun h => absurd h (by decide)) (Nat.le_of_ble_eq_true rfl) (hq) dX11_copies_23
    · refine V_iload 5 0 rfl dX11_copies_3 rfl ?_
      refine V_iload_n 6 3 rfl rfl dX11_copies_5 rfl ?_
      refine V_icmp_ge 23 9 rfl dX11_copies_6 rfl (fun c6 => absurd c6 (nI_ge hi (by omega))) (fun c6 => ?_)
      refine V_aload_n 10 2 rfl _ rfl rfl dX11_copies_9 rfl ?_
      refine V_iload 12 0 rfl dX11_copies_10 rfl ?_
      refine V_aload_n 13 1 rfl _ rfl rfl dX11_copies_12 rfl ?_
      refine V_iload 15 0 rfl dX11_copies_13 rfl ?_
      refine V_ialdN 16 89 51 i (I 89 i) rfl (by omega) (by decide) rfl (by decide) dX11_copies_15 rfl ?_
      refine V_iastN 17 88 51 i (by omega) (by decide) rfl (by decide) dX11_copies_16 rfl ?_
      refine V_iinc 20 0 rfl (nI (i + 1)) [(4, .int (nI (i + 1))), (1, rf G 89), (2, rf G 88), (3, .int (nI z))] (nI_1 _) (by decide) rfl dX11_copies_17 rfl ?_
      refine V_goto 3 rfl dX11_copies_20 ?_
      rw [upA_u, cpF_s]
      exact V_lv [0, 1, 2, 3] rfl ih
  show V _ _ _ _ _ _ _ _ [(0, rf G 69), (1, rf G 89), (2, rf G 88), (3, .int (nI z))] [] _ _ _ _ _
  have e0 : I = upA I 88 (cpF (I 89) (I 88) 0) := upA_cp0
  refine V_iconst 1 (0) rfl dX11_copies_0 rfl ?_
  refine V_istore 3 [(4, .int 0), (0, rf G 69), (1, rf G 89), (2, rf G 88), (3, .int (nI z))] (by decide) rfl dX11_copies_1 rfl ?_
  refine V_rwI e0 ?_
  exact V_lv [0, 2, 3, 4] rfl (L 0 (Nat.zero_le _))
set_option maxHeartbeats 4000000 in
theorem c_X11_copies_72_76 {G : Gx} {d : Nat} {I : FI} {R : FR} {J : FJ} {Q : Po} (hRM : ∀ k, R 69 k = refM k) {z : Nat} (hz : z ≤ 16) (hq : Q (.inl none) 103 (upA I 76 (cpF (I 72) (I 76) z)) R J) : Cc G mX11_copies d 0 0 [rf G 69, rf G 72, rf G 76, .int (nI z)] 103 I R J Q := by
  have L : ∀ i, i ≤ z → V G mX11_copies d 0 0 0 0 3 [(4, .int (nI i)), (1, rf G 72), (2, rf G 76), (3, .int (nI z))] [] 103 (upA I 76 (cpF (I 72) (I 76) i)) R J Q := by
    refine loopd z ?_ (fun i hi ih => ?_)
    · refine V_iload 5 0 rfl dX11_copies_3 rfl ?_
      refine V_iload_n 6 3 rfl rfl dX11_copies_5 rfl ?_
      refine V_icmp_ge 23 9 rfl dX11_copies_6 rfl (fun c6 => ?_) (fun c6 => absurd (Int32.le_refl _) c6)
      refine V_ret_v rfl (Nat.le_of_ble_eq_true rfl) (fun h => absurd h (by decide)) (Nat.le_of_ble_eq_true rfl) (hq) dX11_copies_23
    · refine V_iload 5 0 rfl dX11_copies_3 rfl ?_
      refine V_iload_n 6 3 rfl rfl dX11_copies_5 rfl ?_
      refine V_icmp_ge 23 9 rfl dX11_copies_6 rfl (fun c6 => absurd c6 (nI_ge hi (by omega))) (fun c6 => ?_)
      refine V_aload_n 10 2 rfl _ rfl rfl dX11_copies_9 rfl ?_
      refine V_iload 12 0 rfl dX11_copies_10 rfl ?_
      refine V_aload_n 13 1 rfl _ rfl rfl dX11_copies_12 rfl ?_
      refine V_iload 15 0 rfl dX11_copies_13 rfl ?_
      refine V_ialdN 16 72 16 i (I 72 i) rfl (by omega) (by decide) rfl (by decide) dX11_copies_15 rfl ?_
      refine V_iastN 17 76 16 i (by omega) (by decide) rfl (by decide) dX11_copies_16 rfl ?_
      refine V_iinc 20 0 rfl (nI (i + 1)) [(4, .int (nI (i + 1))), (1, rf G 72), (2, rf G 76), (3, .int (nI z))] (nI_1 _) (by decide) rfl dX11_copies_17 rfl ?_
      refine V_goto 3 rfl dX11_copies_20 ?_
      rw [upA_u, cpF_s]
      exact V_lv [0, 1, 2, 3] rfl ih
  show V _ _ _ _ _ _ _ _ [(0, rf G 69), (1, rf G 72), (2, rf G 76), (3, .int (nI z))] [] _ _ _ _ _
  have e0 : I = upA I 76 (cpF (I 72) (I 76) 0) := upA_cp0
  refine V_iconst 1 (0) rfl dX11_copies_0 rfl ?_
  refine V_istore 3 [(4, .int 0), (0, rf G 69), (1, rf G 72), (2, rf G 76), (3, .int (nI z))] (by decide) rfl dX11_copies_1 rfl ?_
  refine V_rwI e0 ?_
  exact V_lv [0, 2, 3, 4] rfl (L 0 (Nat.zero_le _))
set_option maxHeartbeats 4000000 in
theorem c_X11_copies_73_77 {G : Gx} {d : Nat} {I : FI} {R : FR} {J : FJ} {Q : Po} (hRM : ∀ k, R 69 k = refM k) {z : Nat} (hz : z ≤ 12) (hq : Q (.inl none) 103 (upA I 77 (cpF (I 73) (I 77) z)) R J) : Cc G mX11_copies d 0 0 [rf G 69, rf G 73, rf G 77, .int (nI z)] 103 I R J Q := by
  have L : ∀ i, i ≤ z → V G mX11_copies d 0 0 0 0 3 [(4, .int (nI i)), (1, rf G 73), (2, rf G 77), (3, .int (nI z))] [] 103 (upA I 77 (cpF (I 73) (I 77) i)) R J Q := by
    refine loopd z ?_ (fun i hi ih => ?_)
    · refine V_iload 5 0 rfl dX11_copies_3 rfl ?_
      refine V_iload_n 6 3 rfl rfl dX11_copies_5 rfl ?_
      refine V_icmp_ge 23 9 rfl dX11_copies_6 rfl (fun c6 => ?_) (fun c6 => absurd (Int32.le_refl _) c6)
      refine V_ret_v rfl (Nat.le_of_ble_eq_true rfl) (fun h => absurd h (by decide)) (Nat.le_of_ble_eq_true rfl) (hq) dX11_copies_23
    · refine V_iload 5 0 rfl dX11_copies_3 rfl ?_
      refine V_iload_n 6 3 rfl rfl dX11_copies_5 rfl ?_
      refine V_icmp_ge 23 9 rfl dX11_copies_6 rfl (fun c6 => absurd c6 (nI_ge hi (by omega))) (fun c6 => ?_)
      refine V_aload_n 10 2 rfl _ rfl rfl dX11_copies_9 rfl ?_
      refine V_iload 12 0 rfl dX11_copies_10 rfl ?_
      refine V_aload_n 13 1 rfl _ rfl rfl dX11_copies_12 rfl ?_
      refine V_iload 15 0 rfl dX11_copies_13 rfl ?_
      refine V_ialdN 16 73 12 i (I 73 i) rfl (by omega) (by decide) rfl (by decide) dX11_copies_15 rfl ?_
      refine V_iastN 17 77 12 i (by omega) (by decide) rfl (by decide) dX11_copies_16 rfl ?_
      refine V_iinc 20 0 rfl (nI (i + 1)) [(4, .int (nI (i + 1))), (1, rf G 73), (2, rf G 77), (3, .int (nI z))] (nI_1 _) (by decide) rfl dX11_copies_17 rfl ?_
      refine V_goto 3 rfl dX11_copies_20 ?_
      rw [upA_u, cpF_s]
      exact V_lv [0, 1, 2, 3] rfl ih
  show V _ _ _ _ _ _ _ _ [(0, rf G 69), (1, rf G 73), (2, rf G 77), (3, .int (nI z))] [] _ _ _ _ _
  have e0 : I = upA I 77 (cpF (I 73) (I 77) 0) := upA_cp0
  refine V_iconst 1 (0) rfl dX11_copies_0 rfl ?_
  refine V_istore 3 [(4, .int 0), (0, rf G 69), (1, rf G 73), (2, rf G 77), (3, .int (nI z))] (by decide) rfl dX11_copies_1 rfl ?_
  refine V_rwI e0 ?_
  exact V_lv [0, 2, 3, 4] rfl (L 0 (Nat.zero_le _))
set_option maxHeartbeats 4000000 in
theorem c_X11_copies_74_78 {G : Gx} {d : Nat} {I : FI} {R : FR} {J : FJ} {Q : Po} (hRM : ∀ k, R 69 k = refM k) {z : Nat} (hz : z ≤ 6) (hq : Q (.inl none) 103 (upA I 78 (cpF (I 74) (I 78) z)) R J) : Cc G mX11_copies d 0 0 [rf G 69, rf G 74, rf G 78, .int (nI z)] 103 I R J Q := by
  have L : ∀ i, i ≤ z → V G mX11_copies d 0 0 0 0 3 [(4, .int (nI i)), (1, rf G 74), (2, rf G 78), (3, .int (nI z))] [] 103 (upA I 78 (cpF (I 74) (I 78) i)) R J Q := by
    refine loopd z ?_ (fun i hi ih => ?_)
    · refine V_iload 5 0 rfl dX11_copies_3 rfl ?_
      refine V_iload_n 6 3 rfl rfl dX11_copies_5 rfl ?_
      refine V_icmp_ge 23 9 rfl dX11_copies_6 rfl (fun c6 => ?_) (fun c6 => absurd (Int32.le_refl _) c6)
      refine V_ret_v rfl (Nat.le_of_ble_eq_true rfl) (fun h => absurd h (by decide)) (Nat.le_of_ble_eq_true rfl) (hq) dX11_copies_23
    · refine V_iload 5 0 rfl dX11_copies_3 rfl ?_
      refine V_iload_n 6 3 rfl rfl dX11_copies_5 rfl ?_
      refine V_icmp_ge 23 9 rfl dX11_copies_6 rfl (fun c6 => absurd c6 (nI_ge hi (by omega))) (fun c6 => ?_)
      refine V_aload_n 10 2 rfl _ rfl rfl dX11_copies_9 rfl ?_
      refine V_iload 12 0 rfl dX11_copies_10 rfl ?_
      refine V_aload_n 13 1 rfl _ rfl rfl dX11_copies_12 rfl ?_
      refine V_iload 15 0 rfl dX11_copies_13 rfl ?_
      refine V_ialdN 16 74 6 i (I 74 i) rfl (by omega) (by decide) rfl (by decide) dX11_copies_15 rfl ?_
      refine V_iastN 17 78 6 i (by omega) (by decide) rfl (by decide) dX11_copies_16 rfl ?_
      refine V_iinc 20 0 rfl (nI (i + 1)) [(4, .int (nI (i + 1))), (1, rf G 74), (2, rf G 78), (3, .int (nI z))] (nI_1 _) (by decide) rfl dX11_copies_17 rfl ?_
      refine V_goto 3 rfl dX11_copies_20 ?_
      rw [upA_u, cpF_s]
      exact V_lv [0, 1, 2, 3] rfl ih
  show V _ _ _ _ _ _ _ _ [(0, rf G 69), (1, rf G 74), (2, rf G 78), (3, .int (nI z))] [] _ _ _ _ _
  have e0 : I = upA I 78 (cpF (I 74) (I 78) 0) := upA_cp0
  refine V_iconst 1 (0) rfl dX11_copies_0 rfl ?_
  refine V_istore 3 [(4, .int 0), (0, rf G 69), (1, rf G 74), (2, rf G 78), (3, .int (nI z))] (by decide) rfl dX11_copies_1 rfl ?_
  refine V_rwI e0 ?_
  exact V_lv [0, 2, 3, 4] rfl (L 0 (Nat.zero_le _))
set_option maxHeartbeats 4000000 in
theorem c_X11_copies_75_79 {G : Gx} {d : Nat} {I : FI} {R : FR} {J : FJ} {Q : Po} (hRM : ∀ k, R 69 k = refM k) {z : Nat} (hz : z ≤ 6) (hq : Q (.inl none) 103 (upA I 79 (cpF (I 75) (I 79) z)) R J) : Cc G mX11_copies d 0 0 [rf G 69, rf G 75, rf G 79, .int (nI z)] 103 I R J Q := by
  have L : ∀ i, i ≤ z → V G mX11_copies d 0 0 0 0 3 [(4, .int (nI i)), (1, rf G 75), (2, rf G 79), (3, .int (nI z))] [] 103 (upA I 79 (cpF (I 75) (I 79) i)) R J Q := by
    refine loopd z ?_ (fun i hi ih => ?_)
    · refine V_iload 5 0 rfl dX11_copies_3 rfl ?_
      refine V_iload_n 6 3 rfl rfl dX11_copies_5 rfl ?_
      refine V_icmp_ge 23 9 rfl dX11_copies_6 rfl (fun c6 => ?_) (fun c6 => absurd (Int32.le_refl _) c6)
      refine V_ret_v rfl (Nat.le_of_ble_eq_true rfl) (fun h => absurd h (by decide)) (Nat.le_of_ble_eq_true rfl) (hq) dX11_copies_23
    · refine V_iload 5 0 rfl dX11_copies_3 rfl ?_
      refine V_iload_n 6 3 rfl rfl dX11_copies_5 rfl ?_
      refine V_icmp_ge 23 9 rfl dX11_copies_6 rfl (fun c6 => absurd c6 (nI_ge hi (by omega))) (fun c6 => ?_)
      refine V_aload_n 10 2 rfl _ rfl rfl dX11_copies_9 rfl ?_
      refine V_iload 12 0 rfl dX11_copies_10 rfl ?_
      refine V_aload_n 13 1 rfl _ rfl rfl dX11_copies_12 rfl ?_
      refine V_iload 15 0 rfl dX11_copies_13 rfl ?_
      refine V_ialdN 16 75 6 i (I 75 i) rfl (by omega) (by decide) rfl (by decide) dX11_copies_15 rfl ?_
      refine V_iastN 17 79 6 i (by omega) (by decide) rfl (by decide) dX11_copies_16 rfl ?_
      refine V_iinc 20 0 rfl (nI (i + 1)) [(4, .int (nI (i + 1))), (1, rf G 75), (2, rf G 79), (3, .int (nI z))] (nI_1 _) (by decide) rfl dX11_copies_17 rfl ?_
      refine V_goto 3 rfl dX11_copies_20 ?_
      rw [upA_u, cpF_s]
      exact V_lv [0, 1, 2, 3] rfl ih
  show V _ _ _ _ _ _ _ _ [(0, rf G 69), (1, rf G 75), (2, rf G 79), (3, .int (nI z))] [] _ _ _ _ _
  have e0 : I = upA I 79 (cpF (I 75) (I 79) 0) := upA_cp0
  refine V_iconst 1 (0) rfl dX11_copies_0 rfl ?_
  refine V_istore 3 [(4, .int 0), (0, rf G 69), (1, rf G 75), (2, rf G 79), (3, .int (nI z))] (by decide) rfl dX11_copies_1 rfl ?_
  refine V_rwI e0 ?_
  exact V_lv [0, 2, 3, 4] rfl (L 0 (Nat.zero_le _))
set_option maxHeartbeats 4000000 in
theorem c_X11_copies_80_82 {G : Gx} {d : Nat} {I : FI} {R : FR} {J : FJ} {Q : Po} (hRM : ∀ k, R 69 k = refM k) {z : Nat} (hz : z ≤ 150) (hq : Q (.inl none) 103 (upA I 82 (cpF (I 80) (I 82) z)) R J) : Cc G mX11_copies d 0 0 [rf G 69, rf G 80, rf G 82, .int (nI z)] 103 I R J Q := by
  have L : ∀ i, i ≤ z → V G mX11_copies d 0 0 0 0 3 [(4, .int (nI i)), (1, rf G 80), (2, rf G 82), (3, .int (nI z))] [] 103 (upA I 82 (cpF (I 80) (I 82) i)) R J Q := by
    refine loopd z ?_ (fun i hi ih => ?_)
    · refine V_iload 5 0 rfl dX11_copies_3 rfl ?_
      refine V_iload_n 6 3 rfl rfl dX11_copies_5 rfl ?_
      refine V_icmp_ge 23 9 rfl dX11_copies_6 rfl (fun c6 => ?_) (fun c6 => absurd (Int32.le_refl _) c6)
      refine V_ret_v rfl (Nat.le_of_ble_eq_true rfl) (fun h => absurd h (by decide)) (Nat.le_of_ble_eq_true rfl) (hq) dX11_copies_23
    · refine V_iload 5 0 rfl dX11_copies_3 rfl ?_
      refine V_iload_n 6 3 rfl rfl dX11_copies_5 rfl ?_
      refine V_icmp_ge 23 9 rfl dX11_copies_6 rfl (fun c6 => absurd c6 (nI_ge hi (by omega))) (fun c6 => ?_)
      refine V_aload_n 10 2 rfl _ rfl rfl dX11_copies_9 rfl ?_
      refine V_iload 12 0 rfl dX11_copies_10 rfl ?_
      refine V_aload_n 13 1 rfl _ rfl rfl dX11_copies_12 rfl ?_
      refine V_iload 15 0 rfl dX11_copies_13 rfl ?_
      refine V_ialdN 16 80 150 i (I 80 i) rfl (by omega) (by decide) rfl (by decide) dX11_copies_15 rfl ?_
      refine V_iastN 17 82 150 i (by omega) (by decide) rfl (by decide) dX11_copies_16 rfl ?_
      refine V_iinc 20 0 rfl (nI (i + 1)) [(4, .int (nI (i + 1))), (1, rf G 80), (2, rf G 82), (3, .int (nI z))] (nI_1 _) (by decide) rfl dX11_copies_17 rfl ?_
      refine V_goto 3 rfl dX11_copies_20 ?_
      rw [upA_u, cpF_s]
      exact V_lv [0, 1, 2, 3] rfl ih
  show V _ _ _ _ _ _ _ _ [(0, rf G 69), (1, rf G 80), (2, rf G 82), (3, .int (nI z))] [] _ _ _ _ _
  have e0 : I = upA I 82 (cpF (I 80) (I 82) 0) := upA_cp0
  refine V_iconst 1 (0) rfl dX11_copies_0 rfl ?_
  refine V_istore 3 [(4, .int 0), (0, rf G 69), (1, rf G 80), (2, rf G 82), (3, .int (nI z))] (by decide) rfl dX11_copies_1 rfl ?_
  refine V_rwI e0 ?_
  exact V_lv [0, 2, 3, 4] rfl (L 0 (Nat.zero_le _))
set_option maxHeartbeats 4000000 in
theorem c_X11_copies_81_83 {G : Gx} {d : Nat} {I : FI} {R : FR} {J : FJ} {Q : Po} (hRM : ∀ k, R 69 k = refM k) {z : Nat} (hz : z ≤ 150) (hq : Q (.inl none) 103 (upA I 83 (cpF (I 81) (I 83) z)) R J) : Cc G mX11_copies d 0 0 [rf G 69, rf G 81, rf G 83, .int (nI z)] 103 I R J Q := by
  have L : ∀ i, i ≤ z → V G mX11_copies d 0 0 0 0 3 [(4, .int (nI i)), (1, rf G 81), (2, rf G 83), (3, .int (nI z))] [] 103 (upA I 83 (cpF (I 81) (I 83) i)) R J Q := by
    refine loopd z ?_ (fun i hi ih => ?_)
    · refine V_iload 5 0 rfl dX11_copies_3 rfl ?_
      refine V_iload_n 6 3 rfl rfl dX11_copies_5 rfl ?_
      refine V_icmp_ge 23 9 rfl dX11_copies_6 rfl (fun c6 => ?_) (fun c6 => absurd (Int32.le_refl _) c6)
      refine V_ret_v rfl (Nat.le_of_ble_eq_true rfl) (fun h => absurd h (by decide)) (Nat.le_of_ble_eq_true rfl) (hq) dX11_copies_23
    · refine V_iload 5 0 rfl dX11_copies_3 rfl ?_
      refine V_iload_n 6 3 rfl rfl dX11_copies_5 rfl ?_
      refine V_icmp_ge 23 9 rfl dX11_copies_6 rfl (fun c6 => absurd c6 (nI_ge hi (by omega))) (fun c6 => ?_)
      refine V_aload_n 10 2 rfl _ rfl rfl dX11_copies_9 rfl ?_
      refine V_iload 12 0 rfl dX11_copies_10 rfl ?_
      refine V_aload_n 13 1 rfl _ rfl rfl dX11_copies_12 rfl ?_
      refine V_iload 15 0 rfl dX11_copies_13 rfl ?_
      refine V_ialdN 16 81 150 i (I 81 i) rfl (by omega) (by decide) rfl (by decide) dX11_copies_15 rfl ?_
      refine V_iastN 17 83 150 i (by omega) (by decide) rfl (by decide) dX11_copies_16 rfl ?_
      refine V_iinc 20 0 rfl (nI (i + 1)) [(4, .int (nI (i + 1))), (1, rf G 81), (2, rf G 83), (3, .int (nI z))] (nI_1 _) (by decide) rfl dX11_copies_17 rfl ?_
      refine V_goto 3 rfl dX11_copies_20 ?_
      rw [upA_u, cpF_s]
      exact V_lv [0, 1, 2, 3] rfl ih
  show V _ _ _ _ _ _ _ _ [(0, rf G 69), (1, rf G 81), (2, rf G 83), (3, .int (nI z))] [] _ _ _ _ _
  have e0 : I = upA I 83 (cpF (I 81) (I 83) 0) := upA_cp0
  refine V_iconst 1 (0) rfl dX11_copies_0 rfl ?_
  refine V_istore 3 [(4, .int 0), (0, rf G 69), (1, rf G 81), (2, rf G 83), (3, .int (nI z))] (by decide) rfl dX11_copies_1 rfl ?_
  refine V_rwI e0 ?_
  exact V_lv [0, 2, 3, 4] rfl (L 0 (Nat.zero_le _))
set_option maxHeartbeats 4000000 in
theorem c_X11_copies_86_87 {G : Gx} {d : Nat} {I : FI} {R : FR} {J : FJ} {Q : Po} (hRM : ∀ k, R 69 k = refM k) {z : Nat} (hz : z ≤ 150) (hq : Q (.inl none) 103 (upA I 87 (cpF (I 86) (I 87) z)) R J) : Cc G mX11_copies d 0 0 [rf G 69, rf G 86, rf G 87, .int (nI z)] 103 I R J Q := by
  have L : ∀ i, i ≤ z → V G mX11_copies d 0 0 0 0 3 [(4, .int (nI i)), (1, rf G 86), (2, rf G 87), (3, .int (nI z))] [] 103 (upA I 87 (cpF (I 86) (I 87) i)) R J Q := by
    refine loopd z ?_ (fun i hi ih => ?_)
    · refine V_iload 5 0 rfl dX11_copies_3 rfl ?_
      refine V_iload_n 6 3 rfl rfl dX11_copies_5 rfl ?_
      refine V_icmp_ge 23 9 rfl dX11_copies_6 rfl (fun c6 => ?_) (fun c6 => absurd (Int32.le_refl _) c6)
      refine V_ret_v rfl (Nat.le_of_ble_eq_true rfl) (fun h => absurd h (by decide)) (Nat.le_of_ble_eq_true rfl) (hq) dX11_copies_23
    · refine V_iload 5 0 rfl dX11_copies_3 rfl ?_
      refine V_iload_n 6 3 rfl rfl dX11_copies_5 rfl ?_
      refine V_icmp_ge 23 9 rfl dX11_copies_6 rfl (fun c6 => absurd c6 (nI_ge hi (by omega))) (fun c6 => ?_)
      refine V_aload_n 10 2 rfl _ rfl rfl dX11_copies_9 rfl ?_
      refine V_iload 12 0 rfl dX11_copies_10 rfl ?_
      refine V_aload_n 13 1 rfl _ rfl rfl dX11_copies_12 rfl ?_
      refine V_iload 15 0 rfl dX11_copies_13 rfl ?_
      refine V_ialdN 16 86 150 i (I 86 i) rfl (by omega) (by decide) rfl (by decide) dX11_copies_15 rfl ?_
      refine V_iastN 17 87 150 i (by omega) (by decide) rfl (by decide) dX11_copies_16 rfl ?_
      refine V_iinc 20 0 rfl (nI (i + 1)) [(4, .int (nI (i + 1))), (1, rf G 86), (2, rf G 87), (3, .int (nI z))] (nI_1 _) (by decide) rfl dX11_copies_17 rfl ?_
      refine V_goto 3 rfl dX11_copies_20 ?_
      rw [upA_u, cpF_s]
      exact V_lv [0, 1, 2, 3] rfl ih
  show V _ _ _ _ _ _ _ _ [(0, rf G 69), (1, rf G 86), (2, rf G 87), (3, .int (nI z))] [] _ _ _ _ _
  have e0 : I = upA I 87 (cpF (I 86) (I 87) 0) := upA_cp0
  refine V_iconst 1 (0) rfl dX11_copies_0 rfl ?_
  refine V_istore 3 [(4, .int 0), (0, rf G 69), (1, rf G 86), (2, rf G 87), (3, .int (nI z))] (by decide) rfl dX11_copies_1 rfl ?_
  refine V_rwI e0 ?_
  exact V_lv [0, 2, 3, 4] rfl (L 0 (Nat.zero_le _))
set_option maxHeartbeats 4000000 in
theorem c_X11_copies_92_93 {G : Gx} {d : Nat} {I : FI} {R : FR} {J : FJ} {Q : Po} (hRM : ∀ k, R 69 k = refM k) {z : Nat} (hz : z ≤ 24) (hq : Q (.inl none) 103 (upA I 93 (cpF (I 92) (I 93) z)) R J) : Cc G mX11_copies d 0 0 [rf G 69, rf G 92, rf G 93, .int (nI z)] 103 I R J Q := by
  have L : ∀ i, i ≤ z → V G mX11_copies d 0 0 0 0 3 [(4, .int (nI i)), (1, rf G 92), (2, rf G 93), (3, .int (nI z))] [] 103 (upA I 93 (cpF (I 92) (I 93) i)) R J Q := by
    refine loopd z ?_ (fun i hi ih => ?_)
    · refine V_iload 5 0 rfl dX11_copies_3 rfl ?_
      refine V_iload_n 6 3 rfl rfl dX11_copies_5 rfl ?_
      refine V_icmp_ge 23 9 rfl dX11_copies_6 rfl (fun c6 => ?_) (fun c6 => absurd (Int32.le_refl _) c6)
      refine V_ret_v rfl (Nat.le_of_ble_eq_true rfl) (fun h => absurd h (by decide)) (Nat.le_of_ble_eq_true rfl) (hq) dX11_copies_23
    · refine V_iload 5 0 rfl dX11_copies_3 rfl ?_
      refine V_iload_n 6 3 rfl rfl dX11_copies_5 rfl ?_
      refine V_icmp_ge 23 9 rfl dX11_copies_6 rfl (fun c6 => absurd c6 (nI_ge hi (by omega))) (fun c6 => ?_)
      refine V_aload_n 10 2 rfl _ rfl rfl dX11_copies_9 rfl ?_
      refine V_iload 12 0 rfl dX11_copies_10 rfl ?_
      refine V_aload_n 13 1 rfl _ rfl rfl dX11_copies_12 rfl ?_
      refine V_iload 15 0 rfl dX11_copies_13 rfl ?_
      refine V_ialdN 16 92 24 i (I 92 i) rfl (by omega) (by decide) rfl (by decide) dX11_copies_15 rfl ?_
      refine V_iastN 17 93 24 i (by omega) (by decide) rfl (by decide) dX11_copies_16 rfl ?_
      refine V_iinc 20 0 rfl (nI (i + 1)) [(4, .int (nI (i + 1))), (1, rf G 92), (2, rf G 93), (3, .int (nI z))] (nI_1 _) (by decide) rfl dX11_copies_17 rfl ?_
      refine V_goto 3 rfl dX11_copies_20 ?_
      rw [upA_u, cpF_s]
      exact V_lv [0, 1, 2, 3] rfl ih
  show V _ _ _ _ _ _ _ _ [(0, rf G 69), (1, rf G 92), (2, rf G 93), (3, .int (nI z))] [] _ _ _ _ _
  have e0 : I = upA I 93 (cpF (I 92) (I 93) 0) := upA_cp0
  refine V_iconst 1 (0) rfl dX11_copies_0 rfl ?_
  refine V_istore 3 [(4, .int 0), (0, rf G 69), (1, rf G 92), (2, rf G 93), (3, .int (nI z))] (by decide) rfl dX11_copies_1 rfl ?_
  refine V_rwI e0 ?_
  exact V_lv [0, 2, 3, 4] rfl (L 0 (Nat.zero_le _))
set_option maxHeartbeats 4000000 in
theorem c_X11_take {G : Gx} {d : Nat} {I : FI} {R : FR} {J : FJ} {Q : Po} (hRM : ∀ k, R 69 k = refM k) (hq : ∀ I', (∀ a, a ≠ 89 → I' a = I a) → (∀ k, k < 51 → I' 89 k = I 88 k) → Q (.inl none) 103 I' R J) : Cc G mX11_take (d + 1) 0 0 [rf G 69] 103 I R J Q := by
  show V _ _ _ _ _ _ _ _ [(0, rf G 69)] [] _ _ _ _ _
  refine V_aload_n 1 0 rfl _ rfl rfl dX11_take_0 rfl ?_
  refine V_aload_n 2 0 rfl _ rfl rfl dX11_take_1 rfl ?_
  refine V_getR 5 69 11 40 88 (hRM 40) flX11_71 rfl rfl rfl (by decide) dX11_take_2 rfl ?_
  refine V_aload_n 6 0 rfl _ rfl rfl dX11_take_5 rfl ?_
  refine V_getR 9 69 11 41 89 (hRM 41) flX11_74 rfl rfl rfl (by decide) dX11_take_6 rfl ?_
  refine V_bipush 11 (51) rfl dX11_take_9 rfl ?_
  refine V_callV (K' := 0) (S' := 0) 14 69 11 3 [rf G 88, rf G 89, .int 51] mkX11_copies lkX11_184 (by decide) rfl rfl (by decide) rfl (Nat.le_of_ble_eq_true rfl) (Nat.le_of_ble_eq_true rfl) (Nat.le_of_ble_eq_true rfl) (Nat.le_of_ble_eq_true rfl) rfl rfl dX11_take_11 rfl (c_X11_copies_88_89 (z := 51) hRM (by decide) ?_)
  refine Kq_v (k' := 0) (sl' := 0) rfl rfl ?_
  refine V_ret_v rfl (Nat.le_of_ble_eq_true rfl) (fun h => absurd h (by decide)) (Nat.le_of_ble_eq_true rfl) (hq _ (fun a ha => by simp [upA, ha]) (fun k hk => by simp [upA, cpF, hk])) dX11_take_14
