/-! ===== String constants: length(), charAt(); Arrays.fill ===== -/
section VS
variable {G : Gx} {md : MD} {d K S k sl pc : Nat} {lv : List (Nat × Value)} {rest : List Value} {n : Nat} {I : FI} {R : FR} {J : FJ} {Q : Po}
theorem V_strval (pc' : Nat) {ix : Nat} (i : Nat) (hi : i < 45) (hL : Cond.fieldLink (mY md).cls ix "java/lang/String" "value" "[B" ∈ TSg) (hd : decode (mB md) pc = .ok (.getfield ix, 3)) (hp : pc + 3 = pc') (kk : V G md d K S k sl pc' lv (.ref (g_V G i) :: rest) n I R J Q) : V G md d K S k sl pc lv (sr G i :: rest) n I R J Q := by
  subst hp
  intro p e s m args below meth c n0 C H locs ls hR hz hS hl
  have tg : ∀ w ∈ TSg, w.before args s = true := fun w h => C.2.2.2.2.2.1 w (List.mem_cons_of_mem _ h)
  have hE : Ev G s := C.2.2.2.2.2.2.2.2.2.1
  exact vk_getf C.1 C.2.1 (hE.2.2.2.2.2.1 i hi).2.2.1 hS C.2.2.2.2.1 (tg _ hL) (fun x h => h) hd (kk p e s m args below meth c n0 C H locs ls hR hz hS hl)
theorem V_strcod (pc' : Nat) {ix : Nat} (i : Nat) (hi : i < 45) (hL : Cond.fieldLink (mY md).cls ix "java/lang/String" "coder" "B" ∈ TSg) (hd : decode (mB md) pc = .ok (.getfield ix, 3)) (hp : pc + 3 = pc') (kk : V G md d K S k sl pc' lv (.int 0 :: rest) n I R J Q) : V G md d K S k sl pc lv (sr G i :: rest) n I R J Q := by
  subst hp
  intro p e s m args below meth c n0 C H locs ls hR hz hS hl
  have tg : ∀ w ∈ TSg, w.before args s = true := fun w h => C.2.2.2.2.2.1 w (List.mem_cons_of_mem _ h)
  have hE : Ev G s := C.2.2.2.2.2.2.2.2.2.1
  exact vk_getf C.1 C.2.1 (hE.2.2.2.2.2.1 i hi).2.1 hS C.2.2.2.2.1 (tg _ hL) (fun x h => h) hd (kk p e s m args below meth c n0 C H locs ls hR hz hS hl)
theorem V_strlen (pc' : Nat) (i : Nat) (hi : i < 45) (hd : decode (mB md) pc = .ok (.arraylength, 1)) (hp : pc + 1 = pc') (kk : V G md d K S k sl pc' lv (.int (nI (strB i).length) :: rest) n I R J Q) : V G md d K S k sl pc lv (.ref (g_V G i) :: rest) n I R J Q := by
  subst hp
  intro p e s m args below meth c n0 C H locs ls hR hz hS hl
  have hE : Ev G s := C.2.2.2.2.2.2.2.2.2.1
  exact va_tlen C.1 C.2.1 (hE.2.2.2.2.2.1 i hi).2.2.2 hS rfl hd (kk p e s m args below meth c n0 C H locs ls hR hz hS hl)
theorem V_strb (pc' : Nat) (i j : Nat) (hi : i < 45) (hj : j < (strB i).length) (hb : (strB i).length < 2 ^ 31) (hd : decode (mB md) pc = .ok (.baload, 1)) (hp : pc + 1 = pc') (kk : V G md d K S k sl pc' lv (.int ((strB i).getD j 0) :: rest) n I R J Q) : V G md d K S k sl pc lv (.int (nI j) :: .ref (g_V G i) :: rest) n I R J Q := by
  subst hp
  intro p e s m args below meth c n0 C H locs ls hR hz hS hl
  have hE : Ev G s := C.2.2.2.2.2.2.2.2.2.1
  exact va_tb C.1 C.2.1 (hE.2.2.2.2.2.1 i hi).2.2.2 hS (vp_in_nI hj hb) (by rw [nI_clamp (by omega)]) hd (kk p e s m args below meth c n0 C H locs ls hR hz hS hl)
theorem V_compact (pc' : Nat) {ix : Nat} (hL : Cond.fieldLink (mY md).cls ix "java/lang/String" "COMPACT_STRINGS" "Z" ∈ TSg) (hd : decode (mB md) pc = .ok (.getstatic ix, 3)) (hp : pc + 3 = pc') (kk : V G md d K S k sl pc' lv (.int 1 :: rest) n I R J Q) : V G md d K S k sl pc lv rest n I R J Q := by
  subst hp
  intro p e s m args below meth c n0 C H locs ls hR hz hS hl
  have tg : ∀ w ∈ TSg, w.before args s = true := fun w h => C.2.2.2.2.2.1 w (List.mem_cons_of_mem _ h)
  have hE : Ev G s := C.2.2.2.2.2.2.2.2.2.1
  exact va_gets C.1 C.2.1 hE.2.2.2.2.2.2.1 hS C.2.2.2.2.1 (tg _ hL) (fun x h => h) hd (kk p e s m args below meth c n0 C H locs ls hR hz hS hl)
theorem V_sioobe (pc' : Nat) {ix : Nat} (hL : Cond.fieldLink (mY md).cls ix "jdk/internal/util/Preconditions" "SIOOBE_FORMATTER" "Ljava/util/function/BiFunction;" ∈ TSg) (hd : decode (mB md) pc = .ok (.getstatic ix, 3)) (hp : pc + 3 = pc') (kk0 : V G md d K S k sl pc' lv (.null :: rest) n I R J Q) (kk : ∀ t, V G md d K S k sl pc' lv (.ref t :: rest) n I R J Q) : V G md d K S k sl pc lv rest n I R J Q := by
  subst hp
  intro p e s m args below meth c n0 C H locs ls hR hz hS hl
  have tg : ∀ w ∈ TSg, w.before args s = true := fun w h => C.2.2.2.2.2.1 w (List.mem_cons_of_mem _ h)
  have hE : Ev G s := C.2.2.2.2.2.2.2.2.2.1
  rcases hE.2.2.2.2.2.2.2.2.2.2.2.2.2 with h | ⟨t, h⟩
  · exact va_gets C.1 C.2.1 h hS C.2.2.2.2.1 (tg _ hL) (fun x h => h) hd (kk0 p e s m args below meth c n0 C H locs ls hR hz hS hl)
  · exact va_gets C.1 C.2.1 h hS C.2.2.2.2.1 (tg _ hL) (fun x h => h) hd (kk t p e s m args below meth c n0 C H locs ls hR hz hS hl)
/-- a call whose receiver is a String constant -/
theorem V_callT (pc' : Nat) {md' : MD} {ix K' S' : Nat} {st : List Value} (i nA : Nat) (As : List Value) (hM : MdOk md' nA) (hL : LkV (mY md).cls ix (mY md')) (hi : i < 45) (hcl : (mY md').cls = "java/lang/String") (hA : As.length = nA) (hsl : (lg_sl (sr G i :: As)).length ≤ mL md') (hk : k + K' ≤ K) (hs : sl + S' ≤ S) (hrest : (rest.map fun v => v.category).sum ≤ 8) (hH : mH md = []) (hst : st = As.reverse ++ sr G i :: rest)
    (hd : decode (mB md) pc = .ok (.invokevirtual ix, 3)) (hp : pc + 3 = pc') (hc : Cc G md' d K' S' (sr G i :: As) n I R J (Kq G md (d + 1) K S (k + K') (sl + S') pc' lv rest Q)) : V G md (d + 1) K S k sl pc lv st n I R J Q := by
  subst hp
  intro p e s m args below meth c n0 C H locs ls hR hz hS hl
  obtain ⟨m1, m2, m3, m4, ⟨m5, m6, m7⟩, m8⟩ := hM
  obtain ⟨l1, l2, l3⟩ := hL
  have hts : ∀ w ∈ mWs md, w.before args s = true := C.2.2.2.2.2.1
  have tg : ∀ w ∈ TSg, w.before args s = true := fun w h => hts w (List.mem_cons_of_mem _ h)
  have hE : Ev G s := C.2.2.2.2.2.2.2.2.2.1
  have hw : mWs md' = Cond.code (mY md') (mB md') (mL md') (mR md') :: TSg := by unfold mWs mW; rw [if_pos m1]
  have hrc := va_Orecv (hE.2.2.2.2.2.1 i hi).1 hS
  rw [← hcl] at hrc
  refine V_run (rest := rest) (a0 := sr G i :: As) C hH hR hz hS hl hk hs (fun hsz => ?_)
  exact vx_runV (nL := mL md) (C := (mY md').cls) (b := g_K G i) (As := As) ⟨C.1, C.2.1, C.2.2.1, C.2.2.2.2.1, hts⟩ (hc.met m4 hsl) ⟨callB_of (ws' := TSg) nA hts (goodIn_ws m2) hw rfl rfl (tg _ m3) (tg _ l1) ⟨m5, m6, m7⟩ ⟨by show d + 10 + 1 ≤ d + 1 + 10; omega, by show 8 + (mL md' + 11) + (64 * d + 256) ≤ 64 * (d + 1) + 256; omega⟩, tg _ l2, tg _ l3⟩
    ⟨pc0_blind, hrc, fun U hU hW => ⟨rfl, hE.go hS hU hW, by rw [hU]; exact hR, fun q => by rw [hU]; exact hsz q⟩⟩ rfl hA hl.1 hst (by show 2 * 0 + _ ≤ 8; omega) hd ⟨hk, hs⟩
end VS

theorem lkJ0_335 : LkV RJ0 335 yJ0_coder_7d493 := ⟨(TSg_at 699 (by decide +kernel) rfl), (TSg_at 700 (by decide +kernel) rfl), (TSg_at 701 (by decide +kernel) rfl)⟩
theorem lkJ0_492 : LkV RJ0 492 yJ0_isLatin1_aae02 := ⟨(TSg_at 709 (by decide +kernel) rfl), (TSg_at 710 (by decide +kernel) rfl), (TSg_at 711 (by decide +kernel) rfl)⟩
theorem lkJ0_495 : LkS RJ0 495 yJ1_charAt_3b067 := ⟨(TSg_at 713 (by decide +kernel) rfl), (TSg_at 714 (by decide +kernel) rfl)⟩
theorem lkJ1_9 : LkS RJ1 9 yJ0_checkIndex_df160 := ⟨(TSg_at 716 (by decide +kernel) rfl), (TSg_at 717 (by decide +kernel) rfl)⟩
theorem lkJ0_1059 : LkS RJ0 1059 yJ3_checkIndex_8e157 := ⟨(TSg_at 721 (by decide +kernel) rfl), (TSg_at 722 (by decide +kernel) rfl)⟩
theorem flS_v : Cond.fieldLink RJ0 9 "java/lang/String" "value" "[B" ∈ TSg := (TSg_at 1988 (by decide +kernel) rfl)
theorem flS_c : Cond.fieldLink RJ0 15 "java/lang/String" "coder" "B" ∈ TSg := (TSg_at 1989 (by decide +kernel) rfl)
theorem flS_s : Cond.fieldLink RJ0 38 "java/lang/String" "COMPACT_STRINGS" "Z" ∈ TSg := (TSg_at 703 (by decide +kernel) rfl)
theorem flS_p : Cond.fieldLink RJ0 1053 "jdk/internal/util/Preconditions" "SIOOBE_FORMATTER" "Ljava/util/function/BiFunction;" ∈ TSg := (TSg_at 719 (by decide +kernel) rfl)
/-- every constant: at most 34 signs, each 32 to 122 -/
theorem str_ok : ∀ i, i < 45 → (strB i).length ≤ 34 ∧ ∀ j, j < (strB i).length → ((strB i).getD j 0).toNatClampNeg < 128 ∧ (strB i).getD j 0 = nI ((strB i).getD j 0).toNatClampNeg ∧ ((((strB i).getD j 0) &&& 255).toUInt32 % 65536).toInt32 = (strB i).getD j 0 := by decide +kernel
def stN (i j : Nat) : Nat := ((strB i).getD j 0).toNatClampNeg
def stL (i : Nat) : Nat := (strB i).length
theorem stN_ok {i j : Nat} (hi : i < 45) (hj : j < stL i) : (strB i).getD j 0 = nI (stN i j) ∧ stN i j < 128 := ⟨((str_ok i hi).2 j hj).2.1, ((str_ok i hi).2 j hj).1⟩
theorem c_J0_coder {G : Gx} {d : Nat} {I : FI} {R : FR} {J : FJ} {Q : Po} {i : Nat} (hi : i < 45) (hq : Q (.inl (some (.int 0))) 103 I R J) : Cc G mJ0_coder_7d493 d 0 0 [sr G i] 103 I R J Q := by
  show V _ _ _ _ _ _ _ _ [(0, sr G i)] [] _ _ _ _ _
  refine V_compact 3 flS_s dJ0_coder_7d493_0 rfl ?_
  refine V_if_eq 13 6 rfl dJ0_coder_7d493_3 rfl (fun c => absurd c (by decide)) (fun c => ?_)
  refine V_aload_n 7 0 rfl _ rfl rfl dJ0_coder_7d493_6 rfl ?_
  refine V_strcod 10 i hi flS_c dJ0_coder_7d493_7 rfl ?_
  refine V_goto 14 rfl dJ0_coder_7d493_10 ?_
  exact V_ret_i rfl (by rfl) (Nat.le_refl _) (fun h => absurd h (by decide)) (Nat.le_refl _) hq dJ0_coder_7d493_14
theorem c_J0_isLatin1 {G : Gx} {d : Nat} {I : FI} {R : FR} {J : FJ} {Q : Po} {i : Nat} (hi : i < 45) (hq : Q (.inl (some (.int 1))) 103 I R J) : Cc G mJ0_isLatin1_aae02 d 0 0 [sr G i] 103 I R J Q := by
  show V _ _ _ _ _ _ _ _ [(0, sr G i)] [] _ _ _ _ _
  refine V_compact 3 flS_s dJ0_isLatin1_aae02_0 rfl ?_
  refine V_if_eq 17 6 rfl dJ0_isLatin1_aae02_3 rfl (fun c => absurd c (by decide)) (fun c => ?_)
  refine V_aload_n 7 0 rfl _ rfl rfl dJ0_isLatin1_aae02_6 rfl ?_
  refine V_strcod 10 i hi flS_c dJ0_isLatin1_aae02_7 rfl ?_
  refine V_if_ne 17 13 rfl dJ0_isLatin1_aae02_10 rfl (fun c => absurd rfl c) (fun c => ?_)
  refine V_iconst 14 (1) rfl dJ0_isLatin1_aae02_13 rfl ?_
  refine V_goto 18 rfl dJ0_isLatin1_aae02_14 ?_
  exact V_ret_i rfl (by rfl) (Nat.le_refl _) (fun h => absurd h (by decide)) (Nat.le_refl _) hq dJ0_isLatin1_aae02_18
theorem c_J0_length {G : Gx} {d : Nat} {I : FI} {R : FR} {J : FJ} {Q : Po} {i : Nat} (hi : i < 45) (hq : Q (.inl (some (.int (nI (stL i))))) 103 I R J) : Cc G mJ0_length_8abf5 (d + 1) 0 0 [sr G i] 103 I R J Q := by
  show V _ _ _ _ _ _ _ _ [(0, sr G i)] [] _ _ _ _ _
  refine V_aload_n 1 0 rfl _ rfl rfl dJ0_length_8abf5_0 rfl ?_
  refine V_strval 4 i hi flS_v dJ0_length_8abf5_1 rfl ?_
  refine V_strlen 5 i hi dJ0_length_8abf5_4 rfl ?_
  refine V_aload_n 6 0 rfl _ rfl rfl dJ0_length_8abf5_5 rfl ?_
  refine V_callT (K' := 0) (S' := 0) 9 i 0 [] mkJ0_coder_7d493 lkJ0_335 hi rfl rfl (Nat.le_of_ble_eq_true rfl) (Nat.le_of_ble_eq_true rfl) (Nat.le_of_ble_eq_true rfl) (Nat.le_of_ble_eq_true rfl) rfl rfl dJ0_length_8abf5_6 rfl (c_J0_coder hi ?_)
  refine Kq_i (k' := 0) (sl' := 0) rfl rfl ?_
  refine V_ishr 10 dJ0_length_8abf5_9 rfl ?_
  refine V_rw (show _ = nI (stL i) from by rw [pk_shrN (by have := (str_ok i hi).1; omega) _ 0 (by decide)]; simp [stL]) ?_
  exact V_ret_i rfl rfl (Nat.le_refl _) (fun h => absurd h (by decide)) (Nat.le_refl _) hq dJ0_length_8abf5_10
theorem c_J3_checkIndex {G : Gx} {d : Nat} {I : FI} {R : FR} {J : FJ} {Q : Po} {j L : Nat} {v : Value} (hj : j < L) (hL : L < 2 ^ 31) (hq : Q (.inl (some (.int (nI j)))) 103 I R J) (hv : v = .null ∨ ∃ t, v = .ref t) : Cc G mJ3_checkIndex_8e157 d 0 0 [.int (nI j), .int (nI L), v] 103 I R J Q := by
  have key : ∀ v : Value, V G mJ3_checkIndex_8e157 d 0 0 0 0 0 [(0, .int (nI j)), (1, .int (nI L)), (2, v)] [] 103 I R J Q := by
    intro v
    refine V_iload_n 1 0 rfl rfl dJ3_checkIndex_8e157_0 rfl ?_
    refine V_if_lt 9 4 rfl dJ3_checkIndex_8e157_1 rfl (fun c => absurd c (nI_pos (by omega))) (fun c => ?_)
    refine V_iload_n 5 0 rfl rfl dJ3_checkIndex_8e157_4 rfl ?_
    refine V_iload_n 6 1 rfl rfl dJ3_checkIndex_8e157_5 rfl ?_
    refine V_icmp_lt 16 9 rfl dJ3_checkIndex_8e157_6 rfl (fun c => ?_) (fun c => absurd (nI_lt hj hL) c)
    refine V_iload_n 17 0 rfl rfl dJ3_checkIndex_8e157_16 rfl ?_
    exact V_ret_i rfl rfl (Nat.le_refl _) (fun h => absurd h (by decide)) (Nat.le_refl _) hq dJ3_checkIndex_8e157_17
  rcases hv with rfl | ⟨t, rfl⟩
  · exact key .null
  · exact key (.ref t)
theorem c_J0_checkIndex {G : Gx} {d : Nat} {I : FI} {R : FR} {J : FJ} {Q : Po} {j L : Nat} (hj : j < L) (hL : L < 2 ^ 31) (hq : Q (.inl none) 103 I R J) : Cc G mJ0_checkIndex_df160 (d + 1) 0 0 [.int (nI j), .int (nI L)] 103 I R J Q := by
  show V _ _ _ _ _ _ _ _ [(0, .int (nI j)), (1, .int (nI L))] [] _ _ _ _ _
  refine V_iload_n 1 0 rfl rfl dJ0_checkIndex_df160_0 rfl ?_
  refine V_iload_n 2 1 rfl rfl dJ0_checkIndex_df160_1 rfl ?_
  refine V_sioobe 5 flS_p dJ0_checkIndex_df160_2 rfl ?_ (fun t => ?_)
  · refine V_callS (K' := 0) (S' := 0) 8 3 [.int (nI j), .int (nI L), .null] mkJ3_checkIndex_8e157 lkJ0_1059 rfl (Nat.le_of_ble_eq_true rfl) (Nat.le_of_ble_eq_true rfl) (Nat.le_of_ble_eq_true rfl) (Nat.le_of_ble_eq_true rfl) rfl rfl dJ0_checkIndex_df160_5 rfl (c_J3_checkIndex hj hL ?_ (Or.inl rfl))
    refine Kq_i (k' := 0) (sl' := 0) rfl rfl ?_
    refine V_pop 9 rfl dJ0_checkIndex_df160_8 rfl ?_
    exact V_ret_v rfl (Nat.le_refl _) (fun h => absurd h (by decide)) (Nat.le_refl _) hq dJ0_checkIndex_df160_9
  · refine V_callS (K' := 0) (S' := 0) 8 3 [.int (nI j), .int (nI L), .ref t] mkJ3_checkIndex_8e157 lkJ0_1059 rfl (Nat.le_of_ble_eq_true rfl) (Nat.le_of_ble_eq_true rfl) (Nat.le_of_ble_eq_true rfl) (Nat.le_of_ble_eq_true rfl) rfl rfl dJ0_checkIndex_df160_5 rfl (c_J3_checkIndex hj hL ?_ (Or.inr ⟨t, rfl⟩))
    refine Kq_i (k' := 0) (sl' := 0) rfl rfl ?_
    refine V_pop 9 rfl dJ0_checkIndex_df160_8 rfl ?_
    exact V_ret_v rfl (Nat.le_refl _) (fun h => absurd h (by decide)) (Nat.le_refl _) hq dJ0_checkIndex_df160_9
theorem c_J1_charAt {G : Gx} {d : Nat} {I : FI} {R : FR} {J : FJ} {Q : Po} {i j : Nat} (hi : i < 45) (hj : j < stL i) (hq : Q (.inl (some (.int (nI (stN i j))))) 103 I R J) : Cc G mJ1_charAt_3b067 (d + 1 + 1) 0 0 [.ref (g_V G i), .int (nI j)] 103 I R J Q := by
  obtain ⟨s1, s2⟩ := str_ok i hi
  obtain ⟨s3, s4, s5⟩ := s2 j hj
  have s6 : stL i ≤ 34 := s1
  show V _ _ _ _ _ _ _ _ [(0, .ref (g_V G i)), (1, .int (nI j))] [] _ _ _ _ _
  refine V_iload_n 1 1 rfl rfl dJ1_charAt_3b067_0 rfl ?_
  refine V_aload_n 2 0 rfl _ rfl rfl dJ1_charAt_3b067_1 rfl ?_
  refine V_strlen 3 i hi dJ1_charAt_3b067_2 rfl ?_
  refine V_callS (K' := 0) (S' := 0) 6 2 [.int (nI j), .int (nI (stL i))] mkJ0_checkIndex_df160 lkJ1_9 rfl (Nat.le_of_ble_eq_true rfl) (Nat.le_of_ble_eq_true rfl) (Nat.le_of_ble_eq_true rfl) (Nat.le_of_ble_eq_true rfl) rfl rfl dJ1_charAt_3b067_3 rfl (c_J0_checkIndex hj (by omega) ?_)
  refine Kq_v (k' := 0) (sl' := 0) rfl rfl ?_
  refine V_aload_n 7 0 rfl _ rfl rfl dJ1_charAt_3b067_6 rfl ?_
  refine V_iload_n 8 1 rfl rfl dJ1_charAt_3b067_7 rfl ?_
  refine V_strb 9 i j hi hj (by omega) dJ1_charAt_3b067_8 rfl ?_
  refine V_sipush 12 (255) rfl dJ1_charAt_3b067_9 rfl ?_
  refine V_iand 13 dJ1_charAt_3b067_12 rfl ?_
  refine V_i2c 14 dJ1_charAt_3b067_13 rfl ?_
  refine V_rw (show _ = nI (stN i j) from s5.trans s4) ?_
  exact V_ret_i rfl (pk_charN (by have : stN i j < 128 := s3; omega)).1 (Nat.le_refl _) (fun h => absurd h (by decide)) (Nat.le_refl _) hq dJ1_charAt_3b067_14
theorem c_J0_charAt {G : Gx} {d : Nat} {I : FI} {R : FR} {J : FJ} {Q : Po} {i j : Nat} (hi : i < 45) (hj : j < stL i) (hq : Q (.inl (some (.int (nI (stN i j))))) 103 I R J) : Cc G mJ0_charAt_5068e (d + 1 + 1 + 1) 0 0 [sr G i, .int (nI j)] 103 I R J Q := by
  obtain ⟨s3, s4, s5⟩ := (str_ok i hi).2 j hj
  show V _ _ _ _ _ _ _ _ [(0, sr G i), (1, .int (nI j))] [] _ _ _ _ _
  refine V_aload_n 1 0 rfl _ rfl rfl dJ0_charAt_5068e_0 rfl ?_
  refine V_callT (K' := 0) (S' := 0) 4 i 0 [] mkJ0_isLatin1_aae02 lkJ0_492 hi rfl rfl (Nat.le_of_ble_eq_true rfl) (Nat.le_of_ble_eq_true rfl) (Nat.le_of_ble_eq_true rfl) (Nat.le_of_ble_eq_true rfl) rfl rfl dJ0_charAt_5068e_1 rfl (c_J0_isLatin1 hi ?_)
  refine Kq_i (k' := 0) (sl' := 0) rfl rfl ?_
  refine V_if_eq 16 7 rfl dJ0_charAt_5068e_4 rfl (fun c => absurd c (by decide)) (fun c => ?_)
  refine V_aload_n 8 0 rfl _ rfl rfl dJ0_charAt_5068e_7 rfl ?_
  refine V_strval 11 i hi flS_v dJ0_charAt_5068e_8 rfl ?_
  refine V_iload_n 12 1 rfl rfl dJ0_charAt_5068e_11 rfl ?_
  refine V_callS (K' := 0) (S' := 0) 15 2 [.ref (g_V G i), .int (nI j)] mkJ1_charAt_3b067 lkJ0_495 rfl (Nat.le_of_ble_eq_true rfl) (Nat.le_of_ble_eq_true rfl) (Nat.le_of_ble_eq_true rfl) (Nat.le_of_ble_eq_true rfl) rfl rfl dJ0_charAt_5068e_12 rfl (c_J1_charAt hi hj ?_)
  refine Kq_i (k' := 0) (sl' := 0) rfl rfl ?_
  exact V_ret_i rfl (pk_charN (by have : stN i j < 128 := s3; omega)).1 (Nat.le_refl _) (fun h => absurd h (by decide)) (Nat.le_refl _) hq dJ0_charAt_5068e_15
/-- an array filled up to i -/
def fiF (f : DV) (v : Int32) (i : Nat) : DV := fun j => if j < i then v else f j
theorem fiF_s {f : DV} {v : Int32} {i : Nat} : upd (fiF f v i) i v = fiF f v (i + 1) := by
  funext j
  unfold upd fiF
  by_cases h : j = i
  · subst h; simp
  · by_cases h2 : j < i
    · rw [if_neg h, if_pos h2, if_pos (by omega)]
    · rw [if_neg h, if_neg h2, if_neg (by omega)]
theorem upA_fi0 {I : FI} {a : Nat} {v : Int32} : I = upA I a (fiF (I a) v 0) := by
  funext o j
  unfold upA fiF
  by_cases h : o = a
  · subst h; simp
  · rw [if_neg h]
theorem c_J7_fill_19 {G : Gx} {d : Nat} {I : FI} {R : FR} {J : FJ} {Q : Po} {v : Int32} (hq : Q (.inl none) 103 (upA I 19 (fiF (I 19) v 6)) R J) : Cc G mJ7_fill_53178 d 0 0 [rf G 19, .int v] 103 I R J Q := by
  have L : ∀ i, i ≤ 6 → V G mJ7_fill_53178 (d) 0 0 0 0 5 [(2, .int (nI i)), (3, .int 6), (0, rf G 19), (1, .int v)] [] 103 (upA I 19 (fiF (I 19) v i)) R J Q := by
    refine loopd 6 ?_ (fun i hi ih => ?_)
    · refine V_iload_n 6 0 rfl rfl dJ7_fill_53178_5 rfl ?_
      refine V_iload_n 7 1 rfl rfl dJ7_fill_53178_6 rfl ?_
      refine V_icmp_ge 20 10 rfl dJ7_fill_53178_7 rfl (fun c7 => ?_) (fun c7 => absurd (Int32.le_refl _) c7)
      refine V_ret_v rfl (Nat.le_of_ble_eq_true rfl) (fun h => absurd h (by decide)) (Nat.le_of_ble_eq_true rfl) (hq) dJ7_fill_53178_20
    · refine V_iload_n 6 0 rfl rfl dJ7_fill_53178_5 rfl ?_
      refine V_iload_n 7 1 rfl rfl dJ7_fill_53178_6 rfl ?_
      refine V_icmp_ge 20 10 rfl dJ7_fill_53178_7 rfl (fun c7 => absurd c7 (nI_ge hi (by decide))) (fun c7 => ?_)
      refine V_aload_n 11 2 rfl _ rfl rfl dJ7_fill_53178_10 rfl ?_
      refine V_iload_n 12 0 rfl rfl dJ7_fill_53178_11 rfl ?_
      refine V_iload_n 13 3 rfl rfl dJ7_fill_53178_12 rfl ?_
      refine V_iastN 14 19 6 i (by omega) (by decide) rfl (by decide) dJ7_fill_53178_13 rfl ?_
      refine V_iinc 17 0 rfl (nI (i + 1)) [(2, .int (nI (i + 1))), (3, .int 6), (0, rf G 19), (1, .int v)] (nI_1 _) (by decide) rfl dJ7_fill_53178_14 rfl ?_
      refine V_goto 5 rfl dJ7_fill_53178_17 ?_
      rw [upA_u, fiF_s]
      exact V_lv [0, 1, 2, 3] rfl ih
  show V _ _ _ _ _ _ _ _ [(0, rf G 19), (1, .int v)] [] _ _ _ _ _
  refine V_iconst 1 (0) rfl dJ7_fill_53178_0 rfl ?_
  refine V_istore_n 2 [(2, .int 0), (0, rf G 19), (1, .int v)] (by decide) rfl rfl dJ7_fill_53178_1 rfl ?_
  refine V_aload_n 3 1 rfl _ rfl rfl dJ7_fill_53178_2 rfl ?_
  refine V_alen 4 19 0 6 6 rfl (by decide) rfl (by decide) dJ7_fill_53178_3 rfl ?_
  refine V_istore_n 5 [(3, .int 6), (2, .int 0), (0, rf G 19), (1, .int v)] (by decide) rfl rfl dJ7_fill_53178_4 rfl ?_
  refine V_rwI (upA_fi0 (a := 19) (v := v)) ?_
  exact V_lv [1, 0, 2, 3] rfl (L 0 (Nat.zero_le _))
theorem c_J7_fill_20 {G : Gx} {d : Nat} {I : FI} {R : FR} {J : FJ} {Q : Po} {v : Int32} (hq : Q (.inl none) 103 (upA I 20 (fiF (I 20) v 6)) R J) : Cc G mJ7_fill_53178 d 0 0 [rf G 20, .int v] 103 I R J Q := by
  have L : ∀ i, i ≤ 6 → V G mJ7_fill_53178 (d) 0 0 0 0 5 [(2, .int (nI i)), (3, .int 6), (0, rf G 20), (1, .int v)] [] 103 (upA I 20 (fiF (I 20) v i)) R J Q := by
    refine loopd 6 ?_ (fun i hi ih => ?_)
    · refine V_iload_n 6 0 rfl rfl dJ7_fill_53178_5 rfl ?_
      refine V_iload_n 7 1 rfl rfl dJ7_fill_53178_6 rfl ?_
      refine V_icmp_ge 20 10 rfl dJ7_fill_53178_7 rfl (fun c7 => ?_) (fun c7 => absurd (Int32.le_refl _) c7)
      refine V_ret_v rfl (Nat.le_of_ble_eq_true rfl) (fun h => absurd h (by decide)) (Nat.le_of_ble_eq_true rfl) (hq) dJ7_fill_53178_20
    · refine V_iload_n 6 0 rfl rfl dJ7_fill_53178_5 rfl ?_
      refine V_iload_n 7 1 rfl rfl dJ7_fill_53178_6 rfl ?_
      refine V_icmp_ge 20 10 rfl dJ7_fill_53178_7 rfl (fun c7 => absurd c7 (nI_ge hi (by decide))) (fun c7 => ?_)
      refine V_aload_n 11 2 rfl _ rfl rfl dJ7_fill_53178_10 rfl ?_
      refine V_iload_n 12 0 rfl rfl dJ7_fill_53178_11 rfl ?_
      refine V_iload_n 13 3 rfl rfl dJ7_fill_53178_12 rfl ?_
      refine V_iastN 14 20 6 i (by omega) (by decide) rfl (by decide) dJ7_fill_53178_13 rfl ?_
      refine V_iinc 17 0 rfl (nI (i + 1)) [(2, .int (nI (i + 1))), (3, .int 6), (0, rf G 20), (1, .int v)] (nI_1 _) (by decide) rfl dJ7_fill_53178_14 rfl ?_
      refine V_goto 5 rfl dJ7_fill_53178_17 ?_
      rw [upA_u, fiF_s]
      exact V_lv [0, 1, 2, 3] rfl ih
  show V _ _ _ _ _ _ _ _ [(0, rf G 20), (1, .int v)] [] _ _ _ _ _
  refine V_iconst 1 (0) rfl dJ7_fill_53178_0 rfl ?_
  refine V_istore_n 2 [(2, .int 0), (0, rf G 20), (1, .int v)] (by decide) rfl rfl dJ7_fill_53178_1 rfl ?_
  refine V_aload_n 3 1 rfl _ rfl rfl dJ7_fill_53178_2 rfl ?_
  refine V_alen 4 20 0 6 6 rfl (by decide) rfl (by decide) dJ7_fill_53178_3 rfl ?_
  refine V_istore_n 5 [(3, .int 6), (2, .int 0), (0, rf G 20), (1, .int v)] (by decide) rfl rfl dJ7_fill_53178_4 rfl ?_
  refine V_rwI (upA_fi0 (a := 20) (v := v)) ?_
  exact V_lv [1, 0, 2, 3] rfl (L 0 (Nat.zero_le _))
theorem c_J7_fill_21 {G : Gx} {d : Nat} {I : FI} {R : FR} {J : FJ} {Q : Po} {v : Int32} (hq : Q (.inl none) 103 (upA I 21 (fiF (I 21) v 6)) R J) : Cc G mJ7_fill_53178 d 0 0 [rf G 21, .int v] 103 I R J Q := by
  have L : ∀ i, i ≤ 6 → V G mJ7_fill_53178 (d) 0 0 0 0 5 [(2, .int (nI i)), (3, .int 6), (0, rf G 21), (1, .int v)] [] 103 (upA I 21 (fiF (I 21) v i)) R J Q := by
    refine loopd 6 ?_ (fun i hi ih => ?_)
    · refine V_iload_n 6 0 rfl rfl dJ7_fill_53178_5 rfl ?_
      refine V_iload_n 7 1 rfl rfl dJ7_fill_53178_6 rfl ?_
      refine V_icmp_ge 20 10 rfl dJ7_fill_53178_7 rfl (fun c7 => ?_) (fun c7 => absurd (Int32.le_refl _) c7)
      refine V_ret_v rfl (Nat.le_of_ble_eq_true rfl) (fun h => absurd h (by decide)) (Nat.le_of_ble_eq_true rfl) (hq) dJ7_fill_53178_20
    · refine V_iload_n 6 0 rfl rfl dJ7_fill_53178_5 rfl ?_
      refine V_iload_n 7 1 rfl rfl dJ7_fill_53178_6 rfl ?_
      refine V_icmp_ge 20 10 rfl dJ7_fill_53178_7 rfl (fun c7 => absurd c7 (nI_ge hi (by decide))) (fun c7 => ?_)
      refine V_aload_n 11 2 rfl _ rfl rfl dJ7_fill_53178_10 rfl ?_
      refine V_iload_n 12 0 rfl rfl dJ7_fill_53178_11 rfl ?_
      refine V_iload_n 13 3 rfl rfl dJ7_fill_53178_12 rfl ?_
      refine V_iastN 14 21 6 i (by omega) (by decide) rfl (by decide) dJ7_fill_53178_13 rfl ?_
      refine V_iinc 17 0 rfl (nI (i + 1)) [(2, .int (nI (i + 1))), (3, .int 6), (0, rf G 21), (1, .int v)] (nI_1 _) (by decide) rfl dJ7_fill_53178_14 rfl ?_
      refine V_goto 5 rfl dJ7_fill_53178_17 ?_
      rw [upA_u, fiF_s]
      exact V_lv [0, 1, 2, 3] rfl ih
  show V _ _ _ _ _ _ _ _ [(0, rf G 21), (1, .int v)] [] _ _ _ _ _
  refine V_iconst 1 (0) rfl dJ7_fill_53178_0 rfl ?_
  refine V_istore_n 2 [(2, .int 0), (0, rf G 21), (1, .int v)] (by decide) rfl rfl dJ7_fill_53178_1 rfl ?_
  refine V_aload_n 3 1 rfl _ rfl rfl dJ7_fill_53178_2 rfl ?_
  refine V_alen 4 21 0 6 6 rfl (by decide) rfl (by decide) dJ7_fill_53178_3 rfl ?_
  refine V_istore_n 5 [(3, .int 6), (2, .int 0), (0, rf G 21), (1, .int v)] (by decide) rfl rfl dJ7_fill_53178_4 rfl ?_
  refine V_rwI (upA_fi0 (a := 21) (v := v)) ?_
  exact V_lv [1, 0, 2, 3] rfl (L 0 (Nat.zero_le _))
theorem c_J7_fill_22 {G : Gx} {d : Nat} {I : FI} {R : FR} {J : FJ} {Q : Po} {v : Int32} (hq : Q (.inl none) 103 (upA I 22 (fiF (I 22) v 6)) R J) : Cc G mJ7_fill_53178 d 0 0 [rf G 22, .int v] 103 I R J Q := by
  have L : ∀ i, i ≤ 6 → V G mJ7_fill_53178 (d) 0 0 0 0 5 [(2, .int (nI i)), (3, .int 6), (0, rf G 22), (1, .int v)] [] 103 (upA I 22 (fiF (I 22) v i)) R J Q := by
    refine loopd 6 ?_ (fun i hi ih => ?_)
    · refine V_iload_n 6 0 rfl rfl dJ7_fill_53178_5 rfl ?_
      refine V_iload_n 7 1 rfl rfl dJ7_fill_53178_6 rfl ?_
      refine V_icmp_ge 20 10 rfl dJ7_fill_53178_7 rfl (fun c7 => ?_) (fun c7 => absurd (Int32.le_refl _) c7)
      refine V_ret_v rfl (Nat.le_of_ble_eq_true rfl) (fun h => absurd h (by decide)) (Nat.le_of_ble_eq_true rfl) (hq) dJ7_fill_53178_20
    · refine V_iload_n 6 0 rfl rfl dJ7_fill_53178_5 rfl ?_
      refine V_iload_n 7 1 rfl rfl dJ7_fill_53178_6 rfl ?_
      refine V_icmp_ge 20 10 rfl dJ7_fill_53178_7 rfl (fun c7 => absurd c7 (nI_ge hi (by decide))) (fun c7 => ?_)
      refine V_aload_n 11 2 rfl _ rfl rfl dJ7_fill_53178_10 rfl ?_
      refine V_iload_n 12 0 rfl rfl dJ7_fill_53178_11 rfl ?_
      refine V_iload_n 13 3 rfl rfl dJ7_fill_53178_12 rfl ?_
      refine V_iastN 14 22 6 i (by omega) (by decide) rfl (by decide) dJ7_fill_53178_13 rfl ?_
      refine V_iinc 17 0 rfl (nI (i + 1)) [(2, .int (nI (i + 1))), (3, .int 6), (0, rf G 22), (1, .int v)] (nI_1 _) (by decide) rfl dJ7_fill_53178_14 rfl ?_
      refine V_goto 5 rfl dJ7_fill_53178_17 ?_
      rw [upA_u, fiF_s]
      exact V_lv [0, 1, 2, 3] rfl ih
  show V _ _ _ _ _ _ _ _ [(0, rf G 22), (1, .int v)] [] _ _ _ _ _
  refine V_iconst 1 (0) rfl dJ7_fill_53178_0 rfl ?_
  refine V_istore_n 2 [(2, .int 0), (0, rf G 22), (1, .int v)] (by decide) rfl rfl dJ7_fill_53178_1 rfl ?_
  refine V_aload_n 3 1 rfl _ rfl rfl dJ7_fill_53178_2 rfl ?_
  refine V_alen 4 22 0 6 6 rfl (by decide) rfl (by decide) dJ7_fill_53178_3 rfl ?_
  refine V_istore_n 5 [(3, .int 6), (2, .int 0), (0, rf G 22), (1, .int v)] (by decide) rfl rfl dJ7_fill_53178_4 rfl ?_
  refine V_rwI (upA_fi0 (a := 22) (v := v)) ?_
  exact V_lv [1, 0, 2, 3] rfl (L 0 (Nat.zero_le _))
theorem c_J7_fill_23 {G : Gx} {d : Nat} {I : FI} {R : FR} {J : FJ} {Q : Po} {v : Int32} (hq : Q (.inl none) 103 (upA I 23 (fiF (I 23) v 6)) R J) : Cc G mJ7_fill_53178 d 0 0 [rf G 23, .int v] 103 I R J Q := by
  have L : ∀ i, i ≤ 6 → V G mJ7_fill_53178 (d) 0 0 0 0 5 [(2, .int (nI i)), (3, .int 6), (0, rf G 23), (1, .int v)] [] 103 (upA I 23 (fiF (I 23) v i)) R J Q := by
    refine loopd 6 ?_ (fun i hi ih => ?_)
    · refine V_iload_n 6 0 rfl rfl dJ7_fill_53178_5 rfl ?_
      refine V_iload_n 7 1 rfl rfl dJ7_fill_53178_6 rfl ?_
      refine V_icmp_ge 20 10 rfl dJ7_fill_53178_7 rfl (fun c7 => ?_) (fun c7 => absurd (Int32.le_refl _) c7)
      refine V_ret_v rfl (Nat.le_of_ble_eq_true rfl) (fun h => absurd h (by decide)) (Nat.le_of_ble_eq_true rfl) (hq) dJ7_fill_53178_20
    · refine V_iload_n 6 0 rfl rfl dJ7_fill_53178_5 rfl ?_
      refine V_iload_n 7 1 rfl rfl dJ7_fill_53178_6 rfl ?_
      refine V_icmp_ge 20 10 rfl dJ7_fill_53178_7 rfl (fun c7 => absurd c7 (nI_ge hi (by decide))) (fun c7 => ?_)
      refine V_aload_n 11 2 rfl _ rfl rfl dJ7_fill_53178_10 rfl ?_
      refine V_iload_n 12 0 rfl rfl dJ7_fill_53178_11 rfl ?_
      refine V_iload_n 13 3 rfl rfl dJ7_fill_53178_12 rfl ?_
      refine V_iastN 14 23 6 i (by omega) (by decide) rfl (by decide) dJ7_fill_53178_13 rfl ?_
      refine V_iinc 17 0 rfl (nI (i + 1)) [(2, .int (nI (i + 1))), (3, .int 6), (0, rf G 23), (1, .int v)] (nI_1 _) (by decide) rfl dJ7_fill_53178_14 rfl ?_
      refine V_goto 5 rfl dJ7_fill_53178_17 ?_
      rw [upA_u, fiF_s]
      exact V_lv [0, 1, 2, 3] rfl ih
  show V _ _ _ _ _ _ _ _ [(0, rf G 23), (1, .int v)] [] _ _ _ _ _
  refine V_iconst 1 (0) rfl dJ7_fill_53178_0 rfl ?_
  refine V_istore_n 2 [(2, .int 0), (0, rf G 23), (1, .int v)] (by decide) rfl rfl dJ7_fill_53178_1 rfl ?_
  refine V_aload_n 3 1 rfl _ rfl rfl dJ7_fill_53178_2 rfl ?_
  refine V_alen 4 23 0 6 6 rfl (by decide) rfl (by decide) dJ7_fill_53178_3 rfl ?_
  refine V_istore_n 5 [(3, .int 6), (2, .int 0), (0, rf G 23), (1, .int v)] (by decide) rfl rfl dJ7_fill_53178_4 rfl ?_
  refine V_rwI (upA_fi0 (a := 23) (v := v)) ?_
  exact V_lv [1, 0, 2, 3] rfl (L 0 (Nat.zero_le _))
theorem c_J7_fill_24 {G : Gx} {d : Nat} {I : FI} {R : FR} {J : FJ} {Q : Po} {v : Int32} (hq : Q (.inl none) 103 (upA I 24 (fiF (I 24) v 8)) R J) : Cc G mJ7_fill_53178 d 0 0 [rf G 24, .int v] 103 I R J Q := by
  have L : ∀ i, i ≤ 8 → V G mJ7_fill_53178 (d) 0 0 0 0 5 [(2, .int (nI i)), (3, .int 8), (0, rf G 24), (1, .int v)] [] 103 (upA I 24 (fiF (I 24) v i)) R J Q := by
    refine loopd 8 ?_ (fun i hi ih => ?_)
    · refine V_iload_n 6 0 rfl rfl dJ7_fill_53178_5 rfl ?_
      refine V_iload_n 7 1 rfl rfl dJ7_fill_53178_6 rfl ?_
      refine V_icmp_ge 20 10 rfl dJ7_fill_53178_7 rfl (fun c7 => ?_) (fun c7 => absurd (Int32.le_refl _) c7)
      refine V_ret_v rfl (Nat.le_of_ble_eq_true rfl) (fun h => absurd h (by decide)) (Nat.le_of_ble_eq_true rfl) (hq) dJ7_fill_53178_20
    · refine V_iload_n 6 0 rfl rfl dJ7_fill_53178_5 rfl ?_
      refine V_iload_n 7 1 rfl rfl dJ7_fill_53178_6 rfl ?_
      refine V_icmp_ge 20 10 rfl dJ7_fill_53178_7 rfl (fun c7 => absurd c7 (nI_ge hi (by decide))) (fun c7 => ?_)
      refine V_aload_n 11 2 rfl _ rfl rfl dJ7_fill_53178_10 rfl ?_
      refine V_iload_n 12 0 rfl rfl dJ7_fill_53178_11 rfl ?_
      refine V_iload_n 13 3 rfl rfl dJ7_fill_53178_12 rfl ?_
      refine V_iastN 14 24 8 i (by omega) (by decide) rfl (by decide) dJ7_fill_53178_13 rfl ?_
      refine V_iinc 17 0 rfl (nI (i + 1)) [(2, .int (nI (i + 1))), (3, .int 8), (0, rf G 24), (1, .int v)] (nI_1 _) (by decide) rfl dJ7_fill_53178_14 rfl ?_
      refine V_goto 5 rfl dJ7_fill_53178_17 ?_
      rw [upA_u, fiF_s]
      exact V_lv [0, 1, 2, 3] rfl ih
  show V _ _ _ _ _ _ _ _ [(0, rf G 24), (1, .int v)] [] _ _ _ _ _
  refine V_iconst 1 (0) rfl dJ7_fill_53178_0 rfl ?_
  refine V_istore_n 2 [(2, .int 0), (0, rf G 24), (1, .int v)] (by decide) rfl rfl dJ7_fill_53178_1 rfl ?_
  refine V_aload_n 3 1 rfl _ rfl rfl dJ7_fill_53178_2 rfl ?_
  refine V_alen 4 24 0 8 8 rfl (by decide) rfl (by decide) dJ7_fill_53178_3 rfl ?_
  refine V_istore_n 5 [(3, .int 8), (2, .int 0), (0, rf G 24), (1, .int v)] (by decide) rfl rfl dJ7_fill_53178_4 rfl ?_
  refine V_rwI (upA_fi0 (a := 24) (v := v)) ?_
  exact V_lv [1, 0, 2, 3] rfl (L 0 (Nat.zero_le _))
theorem c_J7_fill_25 {G : Gx} {d : Nat} {I : FI} {R : FR} {J : FJ} {Q : Po} {v : Int32} (hq : Q (.inl none) 103 (upA I 25 (fiF (I 25) v 6)) R J) : Cc G mJ7_fill_53178 d 0 0 [rf G 25, .int v] 103 I R J Q := by
  have L : ∀ i, i ≤ 6 → V G mJ7_fill_53178 (d) 0 0 0 0 5 [(2, .int (nI i)), (3, .int 6), (0, rf G 25), (1, .int v)] [] 103 (upA I 25 (fiF (I 25) v i)) R J Q := by
    refine loopd 6 ?_ (fun i hi ih => ?_)
    · refine V_iload_n 6 0 rfl rfl dJ7_fill_53178_5 rfl ?_
      refine V_iload_n 7 1 rfl rfl dJ7_fill_53178_6 rfl ?_
      refine V_icmp_ge 20 10 rfl dJ7_fill_53178_7 rfl (fun c7 => ?_) (fun c7 => absurd (Int32.le_refl _) c7)
      refine V_ret_v rfl (Nat.le_of_ble_eq_true rfl) (fun h => absurd h (by decide)) (Nat.le_of_ble_eq_true rfl) (hq) dJ7_fill_53178_20
    · refine V_iload_n 6 0 rfl rfl dJ7_fill_53178_5 rfl ?_
      refine V_iload_n 7 1 rfl rfl dJ7_fill_53178_6 rfl ?_
      refine V_icmp_ge 20 10 rfl dJ7_fill_53178_7 rfl (fun c7 => absurd c7 (nI_ge hi (by decide))) (fun c7 => ?_)
      refine V_aload_n 11 2 rfl _ rfl rfl dJ7_fill_53178_10 rfl ?_
      refine V_iload_n 12 0 rfl rfl dJ7_fill_53178_11 rfl ?_
      refine V_iload_n 13 3 rfl rfl dJ7_fill_53178_12 rfl ?_
      refine V_iastN 14 25 6 i (by omega) (by decide) rfl (by decide) dJ7_fill_53178_13 rfl ?_
      refine V_iinc 17 0 rfl (nI (i + 1)) [(2, .int (nI (i + 1))), (3, .int 6), (0, rf G 25), (1, .int v)] (nI_1 _) (by decide) rfl dJ7_fill_53178_14 rfl ?_
      refine V_goto 5 rfl dJ7_fill_53178_17 ?_
      rw [upA_u, fiF_s]
      exact V_lv [0, 1, 2, 3] rfl ih
  show V _ _ _ _ _ _ _ _ [(0, rf G 25), (1, .int v)] [] _ _ _ _ _
  refine V_iconst 1 (0) rfl dJ7_fill_53178_0 rfl ?_
  refine V_istore_n 2 [(2, .int 0), (0, rf G 25), (1, .int v)] (by decide) rfl rfl dJ7_fill_53178_1 rfl ?_
  refine V_aload_n 3 1 rfl _ rfl rfl dJ7_fill_53178_2 rfl ?_
  refine V_alen 4 25 0 6 6 rfl (by decide) rfl (by decide) dJ7_fill_53178_3 rfl ?_
  refine V_istore_n 5 [(3, .int 6), (2, .int 0), (0, rf G 25), (1, .int v)] (by decide) rfl rfl dJ7_fill_53178_4 rfl ?_
  refine V_rwI (upA_fi0 (a := 25) (v := v)) ?_
  exact V_lv [1, 0, 2, 3] rfl (L 0 (Nat.zero_le _))
theorem c_J7_fill_45 {G : Gx} {d : Nat} {I : FI} {R : FR} {J : FJ} {Q : Po} {v : Int32} (hq : Q (.inl none) 103 (upA I 45 (fiF (I 45) v 100)) R J) : Cc G mJ7_fill_53178 d 0 0 [rf G 45, .int v] 103 I R J Q := by
  have L : ∀ i, i ≤ 100 → V G mJ7_fill_53178 (d) 0 0 0 0 5 [(2, .int (nI i)), (3, .int 100), (0, rf G 45), (1, .int v)] [] 103 (upA I 45 (fiF (I 45) v i)) R J Q := by
    refine loopd 100 ?_ (fun i hi ih => ?_)
    · refine V_iload_n 6 0 rfl rfl dJ7_fill_53178_5 rfl ?_
      refine V_iload_n 7 1 rfl rfl dJ7_fill_53178_6 rfl ?_
      refine V_icmp_ge 20 10 rfl dJ7_fill_53178_7 rfl (fun c7 => ?_) (fun c7 => absurd (Int32.le_refl _) c7)
      refine V_ret_v rfl (Nat.le_of_ble_eq_true rfl) (fun h => absurd h (by decide)) (Nat.le_of_ble_eq_true rfl) (hq) dJ7_fill_53178_20
    · refine V_iload_n 6 0 rfl rfl dJ7_fill_53178_5 rfl ?_
      refine V_iload_n 7 1 rfl rfl dJ7_fill_53178_6 rfl ?_
      refine V_icmp_ge 20 10 rfl dJ7_fill_53178_7 rfl (fun c7 => absurd c7 (nI_ge hi (by decide))) (fun c7 => ?_)
      refine V_aload_n 11 2 rfl _ rfl rfl dJ7_fill_53178_10 rfl ?_
      refine V_iload_n 12 0 rfl rfl dJ7_fill_53178_11 rfl ?_
      refine V_iload_n 13 3 rfl rfl dJ7_fill_53178_12 rfl ?_
      refine V_iastN 14 45 100 i (by omega) (by decide) rfl (by decide) dJ7_fill_53178_13 rfl ?_
      refine V_iinc 17 0 rfl (nI (i + 1)) [(2, .int (nI (i + 1))), (3, .int 100), (0, rf G 45), (1, .int v)] (nI_1 _) (by decide) rfl dJ7_fill_53178_14 rfl ?_
      refine V_goto 5 rfl dJ7_fill_53178_17 ?_
      rw [upA_u, fiF_s]
      exact V_lv [0, 1, 2, 3] rfl ih
  show V _ _ _ _ _ _ _ _ [(0, rf G 45), (1, .int v)] [] _ _ _ _ _
  refine V_iconst 1 (0) rfl dJ7_fill_53178_0 rfl ?_
  refine V_istore_n 2 [(2, .int 0), (0, rf G 45), (1, .int v)] (by decide) rfl rfl dJ7_fill_53178_1 rfl ?_
  refine V_aload_n 3 1 rfl _ rfl rfl dJ7_fill_53178_2 rfl ?_
  refine V_alen 4 45 0 100 100 rfl (by decide) rfl (by decide) dJ7_fill_53178_3 rfl ?_
  refine V_istore_n 5 [(3, .int 100), (2, .int 0), (0, rf G 45), (1, .int v)] (by decide) rfl rfl dJ7_fill_53178_4 rfl ?_
  refine V_rwI (upA_fi0 (a := 45) (v := v)) ?_
  exact V_lv [1, 0, 2, 3] rfl (L 0 (Nat.zero_le _))
theorem c_J7_fill_48 {G : Gx} {d : Nat} {I : FI} {R : FR} {J : FJ} {Q : Po} {v : Int32} (hq : Q (.inl none) 103 (upA I 48 (fiF (I 48) v 6)) R J) : Cc G mJ7_fill_53178 d 0 0 [rf G 48, .int v] 103 I R J Q := by
  have L : ∀ i, i ≤ 6 → V G mJ7_fill_53178 (d) 0 0 0 0 5 [(2, .int (nI i)), (3, .int 6), (0, rf G 48), (1, .int v)] [] 103 (upA I 48 (fiF (I 48) v i)) R J Q := by
    refine loopd 6 ?_ (fun i hi ih => ?_)
    · refine V_iload_n 6 0 rfl rfl dJ7_fill_53178_5 rfl ?_
      refine V_iload_n 7 1 rfl rfl dJ7_fill_53178_6 rfl ?_
      refine V_icmp_ge 20 10 rfl dJ7_fill_53178_7 rfl (fun c7 => ?_) (fun c7 => absurd (Int32.le_refl _) c7)
      refine V_ret_v rfl (Nat.le_of_ble_eq_true rfl) (fun h => absurd h (by decide)) (Nat.le_of_ble_eq_true rfl) (hq) dJ7_fill_53178_20
    · refine V_iload_n 6 0 rfl rfl dJ7_fill_53178_5 rfl ?_
      refine V_iload_n 7 1 rfl rfl dJ7_fill_53178_6 rfl ?_
      refine V_icmp_ge 20 10 rfl dJ7_fill_53178_7 rfl (fun c7 => absurd c7 (nI_ge hi (by decide))) (fun c7 => ?_)
      refine V_aload_n 11 2 rfl _ rfl rfl dJ7_fill_53178_10 rfl ?_
      refine V_iload_n 12 0 rfl rfl dJ7_fill_53178_11 rfl ?_
      refine V_iload_n 13 3 rfl rfl dJ7_fill_53178_12 rfl ?_
      refine V_iastN 14 48 6 i (by omega) (by decide) rfl (by decide) dJ7_fill_53178_13 rfl ?_
      refine V_iinc 17 0 rfl (nI (i + 1)) [(2, .int (nI (i + 1))), (3, .int 6), (0, rf G 48), (1, .int v)] (nI_1 _) (by decide) rfl dJ7_fill_53178_14 rfl ?_
      refine V_goto 5 rfl dJ7_fill_53178_17 ?_
      rw [upA_u, fiF_s]
      exact V_lv [0, 1, 2, 3] rfl ih
  show V _ _ _ _ _ _ _ _ [(0, rf G 48), (1, .int v)] [] _ _ _ _ _
  refine V_iconst 1 (0) rfl dJ7_fill_53178_0 rfl ?_
  refine V_istore_n 2 [(2, .int 0), (0, rf G 48), (1, .int v)] (by decide) rfl rfl dJ7_fill_53178_1 rfl ?_
  refine V_aload_n 3 1 rfl _ rfl rfl dJ7_fill_53178_2 rfl ?_
  refine V_alen 4 48 0 6 6 rfl (by decide) rfl (by decide) dJ7_fill_53178_3 rfl ?_
  refine V_istore_n 5 [(3, .int 6), (2, .int 0), (0, rf G 48), (1, .int v)] (by decide) rfl rfl dJ7_fill_53178_4 rfl ?_
  refine V_rwI (upA_fi0 (a := 48) (v := v)) ?_
  exact V_lv [1, 0, 2, 3] rfl (L 0 (Nat.zero_le _))
