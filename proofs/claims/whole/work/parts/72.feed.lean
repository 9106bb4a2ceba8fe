/-! ===== the TAPE fed, opened ===== -/
def byN (v : Int32) (k : Nat) : Nat := v.toBitVec.toNat / 2 ^ (24 - 8 * k) % 256
theorem i8 {x y : Int32} (h : x.toBitVec.toNat % 256 = y.toBitVec.toNat % 256) : x.toInt8 = y.toInt8 := by
  apply Int8.toBitVec_inj.mp
  apply BitVec.eq_of_toNat_eq
  rw [Int32.toBitVec_toInt8, Int32.toBitVec_toInt8, BitVec.signExtend_eq_setWidth_of_le _ (by decide), BitVec.signExtend_eq_setWidth_of_le _ (by decide), BitVec.toNat_setWidth, BitVec.toNat_setWidth]
  exact h
theorem by_lt (v : Int32) (k : Nat) : byN v k < 256 := Nat.mod_lt _ (by decide)
theorem nIbv {n : Nat} (h : n < 2 ^ 31) : (nI n).toBitVec.toNat = n := by
  show (Int32.ofNat n).toBitVec.toNat = n
  rw [Int32.toBitVec_ofNat', BitVec.toNat_ofNat]
  exact Nat.mod_eq_of_lt (by omega)
theorem by_c (v : Int32) {s : Int32} {k : Nat} (hk : k < 4) (hs : (s.toUInt32 &&& Int32.toUInt32 31).toBitVec.toNat % 32 = 24 - 8 * k) : ((v.toUInt32 >>> (s.toUInt32 &&& Int32.toUInt32 31)).toInt32).toInt8.toInt32.toInt8.toInt32 = bI (byN v k) := by
  rw [Int8.toInt8_toInt32]
  unfold bI
  congr 1
  apply i8
  rw [nIbv (by have := by_lt v k; omega)]
  show ((v.toUInt32 >>> (s.toUInt32 &&& Int32.toUInt32 31)).toBitVec).toNat % 256 = _
  rw [UInt32.toBitVec_shiftRight]
  show (v.toBitVec >>> ((s.toUInt32 &&& Int32.toUInt32 31).toBitVec % 32#32)).toNat % 256 = _
  rw [BitVec.ushiftRight_eq', BitVec.toNat_ushiftRight, BitVec.toNat_umod]
  show v.toBitVec.toNat >>> ((s.toUInt32 &&& Int32.toUInt32 31).toBitVec.toNat % 32) % 256 = _
  rw [hs, Nat.shiftRight_eq_div_pow]
  unfold byN
  rw [Nat.mod_mod]
/-- the reference's -/
theorem by_m (v : Int32) {s : Int32} {k : Nat} (hk : k < 4) (hs : s = nI (24 - 8 * k)) : (v >>> (s &&& 31)) &&& 255 = nI (byN v k) := by
  subst hs
  apply Int32.toBitVec_inj.mp
  apply BitVec.eq_of_toNat_eq
  rw [nIbv (by have := by_lt v k; omega), Int32.toBitVec_and, BitVec.toNat_and]
  have e : (v >>> (nI (24 - 8 * k) &&& 31)).toBitVec = v.toBitVec.sshiftRight (24 - 8 * k) := by
    have : ∀ k, k < 4 → ((nI (24 - 8 * k) &&& 31).toBitVec.smod 32#32).toNat = 24 - 8 * k := by decide
    rw [Int32.toBitVec_shiftRight]
    show v.toBitVec.sshiftRight ((nI (24 - 8 * k) &&& 31).toBitVec.smod 32#32).toNat = _
    rw [this k hk]
  rw [e]
  show (v.toBitVec.sshiftRight (24 - 8 * k)).toNat &&& (2 ^ 8 - 1) = _
  rw [Nat.and_two_pow_sub_one_eq_mod]
  unfold byN
  have h2 : (v.toBitVec.sshiftRight (24 - 8 * k)).setWidth 8 = (v.toBitVec >>> (24 - 8 * k)).setWidth 8 := by
    apply BitVec.eq_of_getLsbD_eq
    intro i hi
    rw [BitVec.getLsbD_setWidth, BitVec.getLsbD_setWidth, BitVec.getLsbD_sshiftRight, BitVec.getLsbD_ushiftRight]
    have : 24 - 8 * k + i < 32 := by omega
    simp [this, show ¬ 32 ≤ i by omega]
  have h3 := congrArg BitVec.toNat h2
  rw [BitVec.toNat_setWidth, BitVec.toNat_setWidth, BitVec.toNat_ushiftRight, Nat.shiftRight_eq_div_pow] at h3
  exact h3
theorem nI_ex (x : Int32) : ∃ j, x = nI j := ⟨x.toBitVec.toNat, by
  apply Int32.toBitVec_inj.mp
  apply BitVec.eq_of_toNat_eq
  show _ = (Int32.ofNat _).toBitVec.toNat
  rw [Int32.toBitVec_ofNat', BitVec.toNat_ofNat]
  exact (Nat.mod_eq_of_lt x.toBitVec.isLt).symm⟩
theorem nar_by (x : Int32) : vp_nar .byte x = x.toInt8.toInt32 := rfl
def ap4 (t : Nat → Nat) (s : Nat) (v : Int32) : Nat → Nat := fun j => if s ≤ j ∧ j < s + 4 then byN v (j - s) else t j
theorem ap4_i {t : Nat → Nat} {s j : Nat} {v : Int32} (h1 : s ≤ j) (h2 : j < s + 4) : ap4 t s v j = byN v (j - s) := if_pos ⟨h1, h2⟩
theorem ap4_o {t : Nat → Nat} {s j : Nat} {v : Int32} (h : j < s ∨ s + 4 ≤ j) : ap4 t s v j = t j := if_neg (by omega)
theorem ap4_lt {t : Nat → Nat} {s : Nat} {v : Int32} (h : ∀ j, t j < 256) : ∀ j, ap4 t s v j < 256 := fun j => by
  unfold ap4; split
  · exact by_lt _ _
  · exact h j
theorem c_X8_append {G : Gx} {d : Nat} {I : FI} {R : FR} {J : FJ} {Q : Po} (hRK : RK R) {v : Int32} {s : Nat} (hs : I 1 1 = nI s) (h600 : s + 4 ≤ 600) {t : Nat → Nat} (ht : ∀ j, j < 600 → I 2 j = bI (t j)) (hq : ∀ I', (∀ a, a ≠ 1 → a ≠ 2 → I' a = I a) → (∀ j, j ≠ 1 → I' 1 j = I 1 j) → I' 1 1 = nI (s + 4) → (∀ j, j < 600 → I' 2 j = bI (ap4 t s v j)) → Q (.inl none) 103 I' R J) : Cc G mX8_append d 0 0 [rf G 1, .int v] 103 I R J Q := by
  obtain ⟨F, eF⟩ : ∃ F, F = up2 (up2 (up2 (up2 (up2 (up2 (up2 (up2 I 2 s (bI (byN v 0))) 1 1 (nI (s + 1))) 2 (s + 1) (bI (byN v 1))) 1 1 (nI (s + 2))) 2 (s + 2) (bI (byN v 2))) 1 1 (nI (s + 3))) 2 (s + 3) (bI (byN v 3))) 1 1 (nI (s + 4)) := ⟨_, rfl⟩
  have f1 : ∀ a, a ≠ 1 → a ≠ 2 → F a = I a := fun a h1 h2 => by rw [eF, up2_n _ _ _ h1, up2_n _ _ _ h2, up2_n _ _ _ h1, up2_n _ _ _ h2, up2_n _ _ _ h1, up2_n _ _ _ h2, up2_n _ _ _ h1, up2_n _ _ _ h2]
  have f2 : ∀ j, j ≠ 1 → F 1 j = I 1 j := fun j h => by rw [eF, up2_s, upd_n h, up2_n _ _ _ (by decide), up2_s, upd_n h, up2_n _ _ _ (by decide), up2_s, upd_n h, up2_n _ _ _ (by decide), up2_s, upd_n h, up2_n _ _ _ (by decide)]
  have f3 : F 1 1 = nI (s + 4) := by rw [eF, up2_s]; exact upd_s
  have f4 : F 2 = upd (upd (upd (upd (I 2) s (bI (byN v 0))) (s + 1) (bI (byN v 1))) (s + 2) (bI (byN v 2))) (s + 3) (bI (byN v 3)) := by
    rw [eF, up2_n _ _ _ (by decide), up2_s, up2_n _ _ _ (by decide), up2_s, up2_n _ _ _ (by decide), up2_s, up2_n _ _ _ (by decide), up2_s]
  have f5 : ∀ j, j < 600 → F 2 j = bI (ap4 t s v j) := fun j hj => by
    rw [f4]
    by_cases q : s ≤ j ∧ j < s + 4
    · rw [ap4_i q.1 q.2]
      rcases (show j = s ∨ j = s + 1 ∨ j = s + 2 ∨ j = s + 3 by omega) with e | e | e | e
      · rw [upd_n (by omega), upd_n (by omega), upd_n (by omega), e, upd_s, Nat.sub_self]
      · rw [upd_n (by omega), upd_n (by omega), e, upd_s, show s + 1 - s = 1 by omega]
      · rw [upd_n (by omega), e, upd_s, show s + 2 - s = 2 by omega]
      · rw [e, upd_s, show s + 3 - s = 3 by omega]
    · rw [ap4_o (by omega), upd_n (by omega), upd_n (by omega), upd_n (by omega), upd_n (by omega)]; exact ht j hj
  show V _ _ _ _ _ _ _ _ [(0, rf G 1), (1, .int v)] [] _ _ _ _ _
  refine V_bipush 2 (24) rfl dX8_append_0 rfl ?_
  refine V_istore_n 3 [(2, .int 24), (0, rf G 1), (1, .int v)] (by decide) rfl rfl dX8_append_2 rfl ?_
  refine V_iload_n 4 0 rfl rfl dX8_append_3 rfl ?_
  refine V_if_lt 46 7 rfl dX8_append_4 rfl (fun c4 => absurd c4 (by decide)) (fun c4 => ?_)
  refine V_aload_n 8 1 rfl _ rfl rfl dX8_append_7 rfl ?_
  refine V_getI 11 1 8 1 (nI s) hs flX8_19 rfl rfl rfl (by decide) dX8_append_8 rfl ?_
  refine V_sipush 14 (600) rfl dX8_append_11 rfl ?_
  refine V_icmp_ge 46 17 rfl dX8_append_14 rfl (fun c14 => absurd c14 (nI_ge (b := 600) (by omega) (by decide))) (fun c14 => ?_)
  refine V_aload_n 18 1 rfl _ rfl rfl dX8_append_17 rfl ?_
  refine V_getR 21 1 8 0 2 (hRK 1 0 (by decide) (by decide) (by decide)) flX8_9 rfl rfl rfl (by decide) dX8_append_18 rfl ?_
  refine V_aload_n 22 1 rfl _ rfl rfl dX8_append_21 rfl ?_
  refine V_getI 25 1 8 1 (nI s) hs flX8_19 rfl rfl rfl (by decide) dX8_append_22 rfl ?_
  refine V_iload_n 26 2 rfl rfl dX8_append_25 rfl ?_
  refine V_iload_n 27 0 rfl rfl dX8_append_26 rfl ?_
  refine V_iushr 28 dX8_append_27 rfl ?_
  refine V_i2b 29 dX8_append_28 rfl ?_
  refine V_bastN 30 2 600 s (by omega) (by decide) rfl (by decide) dX8_append_29 rfl ?_
  rw [nar_by, by_c v (k := 0) (by decide) (by decide)]
  refine V_aload_n 31 1 rfl _ rfl rfl dX8_append_30 rfl ?_
  refine V_dup 32 rfl dX8_append_31 rfl ?_
  refine V_getI 35 1 8 1 (nI s) (by rw [up2_n _ _ _ (by decide)]; exact hs) flX8_19 rfl rfl rfl (by decide) dX8_append_32 rfl ?_
  refine V_iconst 36 (1) rfl dX8_append_35 rfl ?_
  refine V_iadd 37 dX8_append_36 rfl ?_
  refine V_rw (show _ = nI (s + 1) from nI_add s 1) ?_
  refine V_putI 40 1 8 1 flX8_19 rfl rfl rfl (by decide) rfl dX8_append_37 rfl ?_
  refine V_iinc 43 0 rfl 16 [(2, .int 16), (0, rf G 1), (1, .int v)] (by decide) (by decide) rfl dX8_append_40 rfl ?_
  refine V_goto 3 rfl dX8_append_43 ?_
  refine V_iload_n 4 0 rfl rfl dX8_append_3 rfl ?_
  refine V_if_lt 46 7 rfl dX8_append_4 rfl (fun c4 => absurd c4 (by decide)) (fun c4 => ?_)
  refine V_aload_n 8 1 rfl _ rfl rfl dX8_append_7 rfl ?_
  refine V_getI 11 1 8 1 (nI (s + 1)) (by rw [up2_s]; exact upd_s) flX8_19 rfl rfl rfl (by decide) dX8_append_8 rfl ?_
  refine V_sipush 14 (600) rfl dX8_append_11 rfl ?_
  refine V_icmp_ge 46 17 rfl dX8_append_14 rfl (fun c14 => absurd c14 (nI_ge (b := 600) (by omega) (by decide))) (fun c14 => ?_)
  refine V_aload_n 18 1 rfl _ rfl rfl dX8_append_17 rfl ?_
  refine V_getR 21 1 8 0 2 (hRK 1 0 (by decide) (by decide) (by decide)) flX8_9 rfl rfl rfl (by decide) dX8_append_18 rfl ?_
  refine V_aload_n 22 1 rfl _ rfl rfl dX8_append_21 rfl ?_
  refine V_getI 25 1 8 1 (nI (s + 1)) (by rw [up2_s]; exact upd_s) flX8_19 rfl rfl rfl (by decide) dX8_append_22 rfl ?_
  refine V_iload_n 26 2 rfl rfl dX8_append_25 rfl ?_
  refine V_iload_n 27 0 rfl rfl dX8_append_26 rfl ?_
  refine V_iushr 28 dX8_append_27 rfl ?_
  refine V_i2b 29 dX8_append_28 rfl ?_
  refine V_bastN 30 2 600 (s + 1) (by omega) (by decide) rfl (by decide) dX8_append_29 rfl ?_
  rw [nar_by, by_c v (k := 1) (by decide) (by decide)]
  refine V_aload_n 31 1 rfl _ rfl rfl dX8_append_30 rfl ?_
  refine V_dup 32 rfl dX8_append_31 rfl ?_
  refine V_getI 35 1 8 1 (nI (s + 1)) (by rw [up2_n _ _ _ (by decide), up2_s]; exact upd_s) flX8_19 rfl rfl rfl (by decide) dX8_append_32 rfl ?_
  refine V_iconst 36 (1) rfl dX8_append_35 rfl ?_
  refine V_iadd 37 dX8_append_36 rfl ?_
  refine V_rw (show _ = nI (s + 2) from nI_add (s + 1) 1) ?_
  refine V_putI 40 1 8 1 flX8_19 rfl rfl rfl (by decide) rfl dX8_append_37 rfl ?_
  refine V_iinc 43 0 rfl 8 [(2, .int 8), (0, rf G 1), (1, .int v)] (by decide) (by decide) rfl dX8_append_40 rfl ?_
  refine V_goto 3 rfl dX8_append_43 ?_
  refine V_iload_n 4 0 rfl rfl dX8_append_3 rfl ?_
  refine V_if_lt 46 7 rfl dX8_append_4 rfl (fun c4 => absurd c4 (by decide)) (fun c4 => ?_)
  refine V_aload_n 8 1 rfl _ rfl rfl dX8_append_7 rfl ?_
  refine V_getI 11 1 8 1 (nI (s + 2)) (by rw [up2_s]; exact upd_s) flX8_19 rfl rfl rfl (by decide) dX8_append_8 rfl ?_
  refine V_sipush 14 (600) rfl dX8_append_11 rfl ?_
  refine V_icmp_ge 46 17 rfl dX8_append_14 rfl (fun c14 => absurd c14 (nI_ge (b := 600) (by omega) (by decide))) (fun c14 => ?_)
  refine V_aload_n 18 1 rfl _ rfl rfl dX8_append_17 rfl ?_
  refine V_getR 21 1 8 0 2 (hRK 1 0 (by decide) (by decide) (by decide)) flX8_9 rfl rfl rfl (by decide) dX8_append_18 rfl ?_
  refine V_aload_n 22 1 rfl _ rfl rfl dX8_append_21 rfl ?_
  refine V_getI 25 1 8 1 (nI (s + 2)) (by rw [up2_s]; exact upd_s) flX8_19 rfl rfl rfl (by decide) dX8_append_22 rfl ?_
  refine V_iload_n 26 2 rfl rfl dX8_append_25 rfl ?_
  refine V_iload_n 27 0 rfl rfl dX8_append_26 rfl ?_
  refine V_iushr 28 dX8_append_27 rfl ?_
  refine V_i2b 29 dX8_append_28 rfl ?_
  refine V_bastN 30 2 600 (s + 2) (by omega) (by decide) rfl (by decide) dX8_append_29 rfl ?_
  rw [nar_by, by_c v (k := 2) (by decide) (by decide)]
  refine V_aload_n 31 1 rfl _ rfl rfl dX8_append_30 rfl ?_
  refine V_dup 32 rfl dX8_append_31 rfl ?_
  refine V_getI 35 1 8 1 (nI (s + 2)) (by rw [up2_n _ _ _ (by decide), up2_s]; exact upd_s) flX8_19 rfl rfl rfl (by decide) dX8_append_32 rfl ?_
  refine V_iconst 36 (1) rfl dX8_append_35 rfl ?_
  refine V_iadd 37 dX8_append_36 rfl ?_
  refine V_rw (show _ = nI (s + 3) from nI_add (s + 2) 1) ?_
  refine V_putI 40 1 8 1 flX8_19 rfl rfl rfl (by decide) rfl dX8_append_37 rfl ?_
  refine V_iinc 43 0 rfl 0 [(2, .int 0), (0, rf G 1), (1, .int v)] (by decide) (by decide) rfl dX8_append_40 rfl ?_
  refine V_goto 3 rfl dX8_append_43 ?_
  refine V_iload_n 4 0 rfl rfl dX8_append_3 rfl ?_
  refine V_if_lt 46 7 rfl dX8_append_4 rfl (fun c4 => absurd c4 (by decide)) (fun c4 => ?_)
  refine V_aload_n 8 1 rfl _ rfl rfl dX8_append_7 rfl ?_
  refine V_getI 11 1 8 1 (nI (s + 3)) (by rw [up2_s]; exact upd_s) flX8_19 rfl rfl rfl (by decide) dX8_append_8 rfl ?_
  refine V_sipush 14 (600) rfl dX8_append_11 rfl ?_
  refine V_icmp_ge 46 17 rfl dX8_append_14 rfl (fun c14 => absurd c14 (nI_ge (b := 600) (by omega) (by decide))) (fun c14 => ?_)
  refine V_aload_n 18 1 rfl _ rfl rfl dX8_append_17 rfl ?_
  refine V_getR 21 1 8 0 2 (hRK 1 0 (by decide) (by decide) (by decide)) flX8_9 rfl rfl rfl (by decide) dX8_append_18 rfl ?_
  refine V_aload_n 22 1 rfl _ rfl rfl dX8_append_21 rfl ?_
  refine V_getI 25 1 8 1 (nI (s + 3)) (by rw [up2_s]; exact upd_s) flX8_19 rfl rfl rfl (by decide) dX8_append_22 rfl ?_
  refine V_iload_n 26 2 rfl rfl dX8_append_25 rfl ?_
  refine V_iload_n 27 0 rfl rfl dX8_append_26 rfl ?_
  refine V_iushr 28 dX8_append_27 rfl ?_
  refine V_i2b 29 dX8_append_28 rfl ?_
  refine V_bastN 30 2 600 (s + 3) (by omega) (by decide) rfl (by decide) dX8_append_29 rfl ?_
  rw [nar_by, by_c v (k := 3) (by decide) (by decide)]
  refine V_aload_n 31 1 rfl _ rfl rfl dX8_append_30 rfl ?_
  refine V_dup 32 rfl dX8_append_31 rfl ?_
  refine V_getI 35 1 8 1 (nI (s + 3)) (by rw [up2_n _ _ _ (by decide), up2_s]; exact upd_s) flX8_19 rfl rfl rfl (by decide) dX8_append_32 rfl ?_
  refine V_iconst 36 (1) rfl dX8_append_35 rfl ?_
  refine V_iadd 37 dX8_append_36 rfl ?_
  refine V_rw (show _ = nI (s + 4) from nI_add (s + 3) 1) ?_
  refine V_putI 40 1 8 1 flX8_19 rfl rfl rfl (by decide) rfl dX8_append_37 rfl ?_
  refine V_iinc 43 0 rfl (-8) [(2, .int (-8)), (0, rf G 1), (1, .int v)] (by decide) (by decide) rfl dX8_append_40 rfl ?_
  refine V_goto 3 rfl dX8_append_43 ?_
  refine V_iload_n 4 0 rfl rfl dX8_append_3 rfl ?_
  refine V_if_lt 46 7 rfl dX8_append_4 rfl (fun c4 => ?_) (fun c4 => absurd c4 (by decide))
  refine V_ret_v rfl (Nat.le_of_ble_eq_true rfl) (fun h => absurd h (by decide)) (Nat.le_of_ble_eq_true rfl) (by rw [← eF]; exact hq F f1 f2 f3 f5) dX8_append_46
theorem c_X8_open {G : Gx} {d : Nat} {I : FI} {R : FR} {J : FJ} {Q : Po} (hRK : RK R) {tn z : Nat} (hs : I 1 1 = nI tn) (hz : z ≤ tn) (h600 : tn ≤ 600) {t : Nat → Nat} (ht : ∀ j, j < 600 → I 2 j = bI (t j)) (h256 : ∀ j, t j < 256) (hq : ∀ I', TxC I' t z → I' 1 1 = 0 → (∀ a, a ≠ 1 → I' a = I a) → Q (.inl none) 103 (tp t z I' (sk t z 0) 0 (-1)) R J) : Cc G mX8_open (d + 3) 0 0 [rf G 1, .int (nI z)] 103 I R J Q := by
  obtain ⟨A, eA⟩ : ∃ A, A = up2 (up2 (up2 (up2 (up2 I 1 2 (nI z)) 1 1 0) 1 4 0) 1 7 0) 1 8 (-1) := ⟨_, rfl⟩
  have a1 : ∀ a, a ≠ 1 → A a = I a := fun a h => by rw [eA, up2_n _ _ _ h, up2_n _ _ _ h, up2_n _ _ _ h, up2_n _ _ _ h, up2_n _ _ _ h]
  have a2 : A 1 2 = nI z := by rw [eA, up2_s, upd_n (by decide), up2_s, upd_n (by decide), up2_s, upd_n (by decide), up2_s, upd_n (by decide), up2_s]; exact upd_s
  have a3 : A 1 1 = 0 := by rw [eA, up2_s, upd_n (by decide), up2_s, upd_n (by decide), up2_s, upd_n (by decide), up2_s]; exact upd_s
  have a4 : A 1 4 = nI 0 := by rw [eA, up2_s, upd_n (by decide), up2_s, upd_n (by decide), up2_s]; exact upd_s
  have a7 : A 1 7 = 0 := by rw [eA, up2_s, upd_n (by decide), up2_s]; exact upd_s
  have a8 : A 1 8 = -1 := by rw [eA, up2_s]; exact upd_s
  have hT : TxC A t z := ⟨a2, by omega, fun j hj => by rw [a1 2 (by decide)]; exact ht j hj, h256⟩
  obtain ⟨s3, e3⟩ := nI_ex (A 1 3)
  obtain ⟨s5, e5⟩ := nI_ex (A 1 5)
  obtain ⟨s6, e6⟩ := nI_ex (A 1 6)
  have eT : A = tr A s3 0 s5 s6 0 (-1) := by
    funext o
    by_cases q : o = 1
    · subst q
      funext j
      unfold tr
      rw [if_pos rfl]
      by_cases j3 : j = 3
      · subst j3; exact e3
      · rw [if_neg j3]
        by_cases j4 : j = 4
        · subst j4; exact a4
        · rw [if_neg j4]
          by_cases j5 : j = 5
          · subst j5; exact e5
          · rw [if_neg j5]
            by_cases j6 : j = 6
            · subst j6; exact e6
            · rw [if_neg j6]
              by_cases j7 : j = 7
              · subst j7; exact a7
              · rw [if_neg j7]
                by_cases j8 : j = 8
                · subst j8; exact a8
                · rw [if_neg j8]
    · rw [tr_n q]
  have mn : (if nI tn < nI z then nI tn else nI z) = nI z := if_neg (nI_nlt hz (by omega))
  have mx : (if (0 : Int32) < nI z then nI z else 0) = nI z := by
    by_cases q : z = 0
    · subst q; rfl
    · exact if_pos (nI_lt (a := 0) (by omega) (by omega))
  show V _ _ _ _ _ _ _ _ [(0, rf G 1), (1, .int (nI z))] [] _ _ _ _ _
  refine V_aload_n 1 0 rfl _ rfl rfl dX8_open_0 rfl ?_
  refine V_iconst 2 (0) rfl dX8_open_1 rfl ?_
  refine V_iload_n 3 1 rfl rfl dX8_open_2 rfl ?_
  refine V_aload_n 4 0 rfl _ rfl rfl dX8_open_3 rfl ?_
  refine V_getI 7 1 8 1 (nI tn) hs flX8_19 rfl rfl rfl (by decide) dX8_open_4 rfl ?_
  refine V_min 10 lkX8_22 (Nat.le_of_ble_eq_true rfl) (Nat.le_of_ble_eq_true rfl) (Nat.le_of_ble_eq_true rfl) dX8_open_7 rfl ?_
  refine V_rw (mn) ?_
  refine V_max 13 lkX8_28 (Nat.le_of_ble_eq_true rfl) (Nat.le_of_ble_eq_true rfl) (Nat.le_of_ble_eq_true rfl) dX8_open_10 rfl ?_
  refine V_rw (mx) ?_
  refine V_putI 16 1 8 2 flX8_31 rfl rfl rfl (by decide) rfl dX8_open_13 rfl ?_
  refine V_aload_n 17 0 rfl _ rfl rfl dX8_open_16 rfl ?_
  refine V_iconst 18 (0) rfl dX8_open_17 rfl ?_
  refine V_putI 21 1 8 1 flX8_19 rfl rfl rfl (by decide) rfl dX8_open_18 rfl ?_
  refine V_aload_n 22 0 rfl _ rfl rfl dX8_open_21 rfl ?_
  refine V_iconst 23 (0) rfl dX8_open_22 rfl ?_
  refine V_putI 26 1 8 4 flX8_34 rfl rfl rfl (by decide) rfl dX8_open_23 rfl ?_
  refine V_aload_n 27 0 rfl _ rfl rfl dX8_open_26 rfl ?_
  refine V_iconst 28 (0) rfl dX8_open_27 rfl ?_
  refine V_putI 31 1 8 7 flX8_37 rfl rfl rfl (by decide) rfl dX8_open_28 rfl ?_
  refine V_aload_n 32 0 rfl _ rfl rfl dX8_open_31 rfl ?_
  refine V_iconst 33 (-1) rfl dX8_open_32 rfl ?_
  refine V_putI 36 1 8 8 flX8_15 rfl rfl rfl (by decide) rfl dX8_open_33 rfl ?_
  rw [← eA]
  refine V_rwI eT ?_
  refine V_aload_n 37 0 rfl _ rfl rfl dX8_open_36 rfl ?_
  refine V_callV (K' := 0) (S' := 0) 40 1 8 0 [] mkX8_next lkX8_40 (by decide) rfl rfl (by decide) rfl (Nat.le_of_ble_eq_true rfl) (Nat.le_of_ble_eq_true rfl) (Nat.le_of_ble_eq_true rfl) (Nat.le_of_ble_eq_true rfl) rfl rfl dX8_open_37 rfl (c_X8_next hRK hT (Nat.zero_le _) ?_)
  refine Kq_v (k' := 0) (sl' := 0) rfl rfl ?_
  refine V_ret_v rfl (Nat.le_of_ble_eq_true rfl) (fun h => absurd h (by decide)) (Nat.le_of_ble_eq_true rfl) (hq A hT a3 a1) dX8_open_40
/-- how many bytes a text may have: n is refused otherwise -/
abbrev ckT (x : Int32) (tn most : Nat) : Prop := 0 ≤ x ∧ x ≤ nI (min tn most)
theorem c_X10_needText {G : Gx} {d : Nat} {I : FI} {R : FR} {J : FJ} {Q : Po} {x : Int32} {tn most : Nat} (hR : R 0 0 = some 1) (hs : I 1 1 = nI tn) (h600 : tn ≤ 600) (hm : most ≤ 600) (h1 : ckT x tn most → Q (.inl none) 103 I R J) (h0 : ¬ ckT x tn most → Q (.inr 1) 103 (up2 I 0 14 (I 0 14 + 1)) R J) : Cc G mX10_needText (d + 1) 1 6 [rf G 0, .int x, .int (nI most)] 103 I R J Q := by
  have mn : (if nI most < nI tn then nI most else nI tn) = nI (min tn most) := by
    by_cases q : most < tn
    · rw [if_pos (nI_lt q (by omega)), Nat.min_eq_right (by omega)]
    · rw [if_neg (nI_nlt (by omega) (by omega)), Nat.min_eq_left (by omega)]
  show V _ _ _ _ _ _ _ _ [(0, rf G 0), (1, .int x), (2, .int (nI most))] [] _ _ _ _ _
  refine V_aload_n 1 0 rfl _ rfl rfl dX10_needText_0 rfl ?_
  refine V_iload_n 2 1 rfl rfl dX10_needText_1 rfl ?_
  refine V_iconst 3 (0) rfl dX10_needText_2 rfl ?_
  refine V_aload_n 4 0 rfl _ rfl rfl dX10_needText_3 rfl ?_
  refine V_getR 7 0 10 0 1 hR flX10_10 rfl rfl rfl (by decide) dX10_needText_4 rfl ?_
  refine V_getI 10 1 8 1 (nI tn) hs flX10_92 rfl rfl rfl (by decide) dX10_needText_7 rfl ?_
  refine V_iload_n 11 2 rfl rfl dX10_needText_10 rfl ?_
  refine V_min 14 lkX10_326 (Nat.le_of_ble_eq_true rfl) (Nat.le_of_ble_eq_true rfl) (Nat.le_of_ble_eq_true rfl) dX10_needText_11 rfl ?_
  refine V_rw (mn) ?_
  refine V_callV (K' := 1) (S' := 6) 17 0 10 3 [.int x, .int 0, .int (nI (min tn most))] mkX10_needWithin lkX10_158 (by decide) rfl rfl (by decide) rfl (Nat.le_of_ble_eq_true rfl) (Nat.le_of_ble_eq_true rfl) (Nat.le_of_ble_eq_true rfl) (Nat.le_of_ble_eq_true rfl) rfl rfl dX10_needText_14 rfl (c_X10_needWithin (fun a b => ?_) (fun a => h0 a))
  refine Kq_v (k' := 1) (sl' := 6) rfl rfl ?_
  refine V_ret_v rfl (Nat.le_of_ble_eq_true rfl) (fun h => absurd h (by decide)) (Nat.le_of_ble_eq_true rfl) (h1 ⟨a, b⟩) dX10_needText_17
/-- what begins() leaves -/
def BgM (I : FI) (z : Int32) : FI := up2 (up2 (up2 (up2 (up2 (up2 I 69 2 0) 69 8 (-1)) 69 3 z) 69 4 0) 69 5 (-1)) 69 7 0
theorem c_X11_begins {G : Gx} {d : Nat} {I : FI} {R : FR} {J : FJ} {Q : Po} {z : Int32} (hq : Q (.inl none) 103 (BgM I z) R J) : Cc G mX11_begins d 0 0 [rf G 69, .int z] 103 I R J Q := by
  show V _ _ _ _ _ _ _ _ [(0, rf G 69), (1, .int z)] [] _ _ _ _ _
  refine V_aload_n 1 0 rfl _ rfl rfl dX11_begins_0 rfl ?_
  refine V_iconst 2 (0) rfl dX11_begins_1 rfl ?_
  refine V_putI 5 69 11 2 flX11_120 rfl rfl rfl (by decide) rfl dX11_begins_2 rfl ?_
  refine V_aload_n 6 0 rfl _ rfl rfl dX11_begins_5 rfl ?_
  refine V_iconst 7 (-1) rfl dX11_begins_6 rfl ?_
  refine V_putI 10 69 11 8 flX11_17 rfl rfl rfl (by decide) rfl dX11_begins_7 rfl ?_
  refine V_aload_n 11 0 rfl _ rfl rfl dX11_begins_10 rfl ?_
  refine V_iload_n 12 1 rfl rfl dX11_begins_11 rfl ?_
  refine V_putI 15 69 11 3 flX11_132 rfl rfl rfl (by decide) rfl dX11_begins_12 rfl ?_
  refine V_aload_n 16 0 rfl _ rfl rfl dX11_begins_15 rfl ?_
  refine V_iconst 17 (0) rfl dX11_begins_16 rfl ?_
  refine V_putI 20 69 11 4 flX11_129 rfl rfl rfl (by decide) rfl dX11_begins_17 rfl ?_
  refine V_aload_n 21 0 rfl _ rfl rfl dX11_begins_20 rfl ?_
  refine V_iconst 22 (-1) rfl dX11_begins_21 rfl ?_
  refine V_putI 25 69 11 5 flX11_123 rfl rfl rfl (by decide) rfl dX11_begins_22 rfl ?_
  refine V_aload_n 26 0 rfl _ rfl rfl dX11_begins_25 rfl ?_
  refine V_iconst 27 (0) rfl dX11_begins_26 rfl ?_
  refine V_putI 30 69 11 7 flX11_163 rfl rfl rfl (by decide) rfl dX11_begins_27 rfl ?_
  refine V_ret_v rfl (Nat.le_of_ble_eq_true rfl) (fun h => absurd h (by decide)) (Nat.le_of_ble_eq_true rfl) (hq) dX11_begins_30
theorem lx_self {I : FI} {a : Nat} {b k : Int32} (h4 : I 69 4 = nI a) (h5 : I 69 5 = b) (h6 : I 69 6 = k) : I = lx I a b k := by
  funext o
  by_cases q : o = 69
  · subst q; funext j; unfold lx; rw [if_pos rfl]
    by_cases j4 : j = 4
    · subst j4; exact h4
    · rw [if_neg j4]
      by_cases j5 : j = 5
      · subst j5; exact h5
      · rw [if_neg j5]
        by_cases j6 : j = 6
        · subst j6; exact h6
        · rw [if_neg j6]
  · exact (lx_n q).symm
theorem Bg_n {I : FI} {z : Int32} {a : Nat} (h : a ≠ 69) : BgM I z a = I a := by unfold BgM; rw [up2_n _ _ _ h, up2_n _ _ _ h, up2_n _ _ _ h, up2_n _ _ _ h, up2_n _ _ _ h, up2_n _ _ _ h]
theorem Bg_69 {I : FI} {z : Int32} {j : Nat} (h2 : j ≠ 2) (h3 : j ≠ 3) (h4 : j ≠ 4) (h5 : j ≠ 5) (h7 : j ≠ 7) (h8 : j ≠ 8) : BgM I z 69 j = I 69 j := by unfold BgM; rw [up2_s, upd_n h7, up2_s, upd_n h5, up2_s, upd_n h4, up2_s, upd_n h3, up2_s, upd_n h8, up2_s, upd_n h2]
theorem Bg_2 {I : FI} {z : Int32} : BgM I z 69 2 = 0 := rfl
theorem Bg_3 {I : FI} {z : Int32} : BgM I z 69 3 = z := rfl
theorem Bg_4 {I : FI} {z : Int32} : BgM I z 69 4 = nI 0 := rfl
theorem Bg_5 {I : FI} {z : Int32} : BgM I z 69 5 = -1 := rfl
theorem Bg_7 {I : FI} {z : Int32} : BgM I z 69 7 = nI 0 := rfl
theorem Bg_8 {I : FI} {z : Int32} : BgM I z 69 8 = -1 := rfl
theorem Bg_lx {I : FI} {z : Int32} : BgM I z = lx (BgM I z) 0 (-1) (I 69 6) := lx_self Bg_4 Bg_5 (Bg_69 (by decide) (by decide) (by decide) (by decide) (by decide) (by decide))
theorem Bg_T {I : FI} {t : Nat → Nat} {z : Nat} (hz : z ≤ 600) (ht : ∀ j, j < 600 → I 71 j = nI (t j)) (h256 : ∀ j, t j < 256) : TxM (BgM I (nI z)) t z := ⟨Bg_3, hz, fun j hj => by rw [Bg_n (by decide)]; exact ht j hj, h256⟩
theorem c_X11_result {G : Gx} {d : Nat} {I : FI} {R : FR} {J : FJ} {Q : Po} {y : Int32} (h1 : I 69 5 = -1 → Q (.inl (some (.int y))) 103 (up2 I 69 8 (I 69 5)) R J) (h0 : ¬ I 69 5 = -1 → Q (.inl (some (.int (I 69 6 - 10)))) 103 (up2 I 69 8 (I 69 5)) R J) : Cc G mX11_result (d + 1) 0 0 [rf G 69, .int y] 103 I R J Q := by
  have e5 : up2 I 69 8 (I 69 5) 69 5 = I 69 5 := by rw [up2_s, upd_n (by decide)]
  have e6 : up2 I 69 8 (I 69 5) 69 6 = I 69 6 := by rw [up2_s, upd_n (by decide)]
  show V _ _ _ _ _ _ _ _ [(0, rf G 69), (1, .int y)] [] _ _ _ _ _
  refine V_aload_n 1 0 rfl _ rfl rfl dX11_result_0 rfl ?_
  refine V_aload_n 2 0 rfl _ rfl rfl dX11_result_1 rfl ?_
  refine V_getI 5 69 11 5 (I 69 5) rfl flX11_123 rfl rfl rfl (by decide) dX11_result_2 rfl ?_
  refine V_putI 8 69 11 8 flX11_17 rfl rfl rfl (by decide) rfl dX11_result_5 rfl ?_
  refine V_aload_n 9 0 rfl _ rfl rfl dX11_result_8 rfl ?_
  refine V_callV (K' := 0) (S' := 0) 12 69 11 0 [] mkX11_fine lkX11_152 (by decide) rfl rfl (by decide) rfl (Nat.le_of_ble_eq_true rfl) (Nat.le_of_ble_eq_true rfl) (Nat.le_of_ble_eq_true rfl) (Nat.le_of_ble_eq_true rfl) rfl rfl dX11_result_9 rfl (c_X11_fine (fun y1 => ?_) (fun y0 => ?_))
  · refine Kq_i (k' := 0) (sl' := 0) rfl rfl ?_
    rw [e5] at y1
    refine V_if_eq 19 15 rfl dX11_result_12 rfl (fun c12 => absurd c12 (by decide)) (fun c12 => ?_)
    refine V_iload_n 16 1 rfl rfl dX11_result_15 rfl ?_
    refine V_goto 26 rfl dX11_result_16 ?_
    refine V_ret_i rfl rfl (Nat.le_of_ble_eq_true rfl) (fun h => absurd h (by decide)) (Nat.le_of_ble_eq_true rfl) (h1 y1) dX11_result_26
  · refine Kq_i (k' := 0) (sl' := 0) rfl rfl ?_
    rw [e5] at y0
    refine V_if_eq 19 15 rfl dX11_result_12 rfl (fun c12 => ?_) (fun c12 => absurd c12 (by decide))
    refine V_aload_n 20 0 rfl _ rfl rfl dX11_result_19 rfl ?_
    refine V_getI 23 69 11 6 (I 69 6) e6 flX11_126 rfl rfl rfl (by decide) dX11_result_20 rfl ?_
    refine V_bipush 25 (10) rfl dX11_result_23 rfl ?_
    refine V_isub 26 dX11_result_25 rfl ?_
    refine V_ret_i rfl rfl (Nat.le_of_ble_eq_true rfl) (fun h => absurd h (by decide)) (Nat.le_of_ble_eq_true rfl) (h0 y0) dX11_result_26
