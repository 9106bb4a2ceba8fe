/-! ===== Integer.bitCount; the class's Law ===== -/
def ushF (x y : Int32) : Int32 := (x.toUInt32 >>> (y.toUInt32 &&& Int32.toUInt32 31)).toInt32
def bcI (x : Int32) : Int32 :=
  let a := x - (ushF x 1 &&& 1431655765)
  let b := (a &&& 858993459) + (ushF a 2 &&& 858993459)
  let c := (b + ushF b 4) &&& 252645135
  let e := c + ushF c 8
  (e + ushF e 16) &&& 63
set_option maxHeartbeats 4000000 in
theorem c_J6_bitCount {G : Gx} {d : Nat} {I : FI} {R : FR} {J : FJ} {Q : Po} {x : Int32} (hq : Q (.inl (some (.int (bcI x)))) 103 I R J) : Cc G mJ6_bitCount_0f7a4 d 0 0 [.int x] 103 I R J Q := by
  show V _ _ _ _ _ _ _ _ [(0, .int x)] [] _ _ _ _ _
  refine V_iload_n 1 0 rfl rfl dJ6_bitCount_0f7a4_0 rfl ?_
  refine V_iload_n 2 0 rfl rfl dJ6_bitCount_0f7a4_1 rfl ?_
  refine V_iconst 3 (1) rfl dJ6_bitCount_0f7a4_2 rfl ?_
  refine V_iushr 4 dJ6_bitCount_0f7a4_3 rfl ?_
  refine V_ldcw 7 (1431655765) rfl ckJ6_265 dJ6_bitCount_0f7a4_4 rfl ?_
  refine V_iand 8 dJ6_bitCount_0f7a4_7 rfl ?_
  refine V_isub 9 dJ6_bitCount_0f7a4_8 rfl ?_
  refine V_topi (fun a_ ea_ => ?_)
  refine V_istore_n 10 [(0, .int a_)] (by decide) rfl rfl dJ6_bitCount_0f7a4_9 rfl ?_
  refine V_iload_n 11 0 rfl rfl dJ6_bitCount_0f7a4_10 rfl ?_
  refine V_ldcw 14 (858993459) rfl ckJ6_266 dJ6_bitCount_0f7a4_11 rfl ?_
  refine V_iand 15 dJ6_bitCount_0f7a4_14 rfl ?_
  refine V_iload_n 16 0 rfl rfl dJ6_bitCount_0f7a4_15 rfl ?_
  refine V_iconst 17 (2) rfl dJ6_bitCount_0f7a4_16 rfl ?_
  refine V_iushr 18 dJ6_bitCount_0f7a4_17 rfl ?_
  refine V_ldcw 21 (858993459) rfl ckJ6_266 dJ6_bitCount_0f7a4_18 rfl ?_
  refine V_iand 22 dJ6_bitCount_0f7a4_21 rfl ?_
  refine V_iadd 23 dJ6_bitCount_0f7a4_22 rfl ?_
  refine V_topi (fun b_ eb_ => ?_)
  refine V_istore_n 24 [(0, .int b_)] (by decide) rfl rfl dJ6_bitCount_0f7a4_23 rfl ?_
  refine V_iload_n 25 0 rfl rfl dJ6_bitCount_0f7a4_24 rfl ?_
  refine V_iload_n 26 0 rfl rfl dJ6_bitCount_0f7a4_25 rfl ?_
  refine V_iconst 27 (4) rfl dJ6_bitCount_0f7a4_26 rfl ?_
  refine V_iushr 28 dJ6_bitCount_0f7a4_27 rfl ?_
  refine V_iadd 29 dJ6_bitCount_0f7a4_28 rfl ?_
  refine V_ldcw 32 (252645135) rfl ckJ6_267 dJ6_bitCount_0f7a4_29 rfl ?_
  refine V_iand 33 dJ6_bitCount_0f7a4_32 rfl ?_
  refine V_topi (fun c_ ec_ => ?_)
  refine V_istore_n 34 [(0, .int c_)] (by decide) rfl rfl dJ6_bitCount_0f7a4_33 rfl ?_
  refine V_iload_n 35 0 rfl rfl dJ6_bitCount_0f7a4_34 rfl ?_
  refine V_iload_n 36 0 rfl rfl dJ6_bitCount_0f7a4_35 rfl ?_
  refine V_bipush 38 (8) rfl dJ6_bitCount_0f7a4_36 rfl ?_
  refine V_iushr 39 dJ6_bitCount_0f7a4_38 rfl ?_
  refine V_iadd 40 dJ6_bitCount_0f7a4_39 rfl ?_
  refine V_topi (fun e_ ee_ => ?_)
  refine V_istore_n 41 [(0, .int e_)] (by decide) rfl rfl dJ6_bitCount_0f7a4_40 rfl ?_
  refine V_iload_n 42 0 rfl rfl dJ6_bitCount_0f7a4_41 rfl ?_
  refine V_iload_n 43 0 rfl rfl dJ6_bitCount_0f7a4_42 rfl ?_
  refine V_bipush 45 (16) rfl dJ6_bitCount_0f7a4_43 rfl ?_
  refine V_iushr 46 dJ6_bitCount_0f7a4_45 rfl ?_
  refine V_iadd 47 dJ6_bitCount_0f7a4_46 rfl ?_
  refine V_topi (fun f_ ef_ => ?_)
  refine V_istore_n 48 [(0, .int f_)] (by decide) rfl rfl dJ6_bitCount_0f7a4_47 rfl ?_
  refine V_iload_n 49 0 rfl rfl dJ6_bitCount_0f7a4_48 rfl ?_
  refine V_bipush 51 (63) rfl dJ6_bitCount_0f7a4_49 rfl ?_
  refine V_iand 52 dJ6_bitCount_0f7a4_51 rfl ?_
  refine V_ret_i rfl rfl (Nat.le_refl _) (fun h => absurd h (by decide)) (Nat.le_refl _) (by subst ef_; subst ee_; subst ec_; subst eb_; subst ea_; exact hq) dJ6_bitCount_0f7a4_52
/-- two parts joined (the class's numbers: 2 +, 3 -, 4 *, 5 /, 6 %, 7 least, 8 most) -/
def jnF (k : Nat) (a b : Int32) : Int32 := match k with
  | 2 => a + b
  | 3 => a - b
  | 4 => a * b
  | 5 => if b = 0 then 0 else a / b
  | 6 => if b = 0 then 0 else a - a / b * b
  | 7 => if b < a then b else a
  | _ => if a < b then b else a
theorem jn7a {a b : Int32} (c : b ≤ a) : (if b < a then b else a) = b := by
  by_cases h : b < a
  · rw [if_pos h]
  · rw [if_neg h]; exact Int32.le_antisymm (Int32.not_lt.mp h) c
theorem jn7b {a b : Int32} (c : ¬ b ≤ a) : (if b < a then b else a) = a := if_neg (fun h => c (Int32.le_of_lt h))
theorem jn8a {a b : Int32} (c : a ≤ b) : (if a < b then b else a) = b := by
  by_cases h : a < b
  · rw [if_pos h]
  · rw [if_neg h]; exact Int32.le_antisymm c (Int32.not_lt.mp h)
theorem jn8b {a b : Int32} (c : ¬ a ≤ b) : (if a < b then b else a) = a := if_neg (fun h => c (Int32.le_of_lt h))
set_option maxHeartbeats 4000000 in
theorem c_X5_joined {G : Gx} {d : Nat} {I : FI} {R : FR} {J : FJ} {Q : Po} {k : Nat} {a b : Int32} (h2 : 2 ≤ k) (h8 : k ≤ 8) (hq : Q (.inl (some (.int (jnF k a b)))) 103 I R J) : Cc G mX5_joined d 0 0 [.int (nI k), .int a, .int b] 103 I R J Q := by
  show V _ _ _ _ _ _ _ _ [(0, .int (nI k)), (1, .int a), (2, .int b)] [] _ _ _ _ _
  rcases (show k = 2 ∨ k = 3 ∨ k = 4 ∨ k = 5 ∨ k = 6 ∨ k = 7 ∨ k = 8 by omega) with rfl | rfl | rfl | rfl | rfl | rfl | rfl
  · refine V_iload_n 1 0 rfl rfl dX5_joined_0 rfl ?_
    refine V_tabIn (off := 39) 40 (by decide) (by decide) (by decide) rfl dX5_joined_1 ?_
    refine V_iload_n 41 1 rfl rfl dX5_joined_40 rfl ?_
    refine V_iload_n 42 2 rfl rfl dX5_joined_41 rfl ?_
    refine V_iadd 43 dX5_joined_42 rfl ?_
    refine V_ret_i rfl rfl (Nat.le_refl _) (fun h => absurd h (by decide)) (Nat.le_refl _) (hq) dX5_joined_43
  · refine V_iload_n 1 0 rfl rfl dX5_joined_0 rfl ?_
    refine V_tabIn (off := 43) 44 (by decide) (by decide) (by decide) rfl dX5_joined_1 ?_
    refine V_iload_n 45 1 rfl rfl dX5_joined_44 rfl ?_
    refine V_iload_n 46 2 rfl rfl dX5_joined_45 rfl ?_
    refine V_isub 47 dX5_joined_46 rfl ?_
    refine V_ret_i rfl rfl (Nat.le_refl _) (fun h => absurd h (by decide)) (Nat.le_refl _) (hq) dX5_joined_47
  · refine V_iload_n 1 0 rfl rfl dX5_joined_0 rfl ?_
    refine V_tabIn (off := 47) 48 (by decide) (by decide) (by decide) rfl dX5_joined_1 ?_
    refine V_iload_n 49 1 rfl rfl dX5_joined_48 rfl ?_
    refine V_iload_n 50 2 rfl rfl dX5_joined_49 rfl ?_
    refine V_imul 51 dX5_joined_50 rfl ?_
    refine V_ret_i rfl rfl (Nat.le_refl _) (fun h => absurd h (by decide)) (Nat.le_refl _) (hq) dX5_joined_51
  · refine V_iload_n 1 0 rfl rfl dX5_joined_0 rfl ?_
    refine V_tabIn (off := 51) 52 (by decide) (by decide) (by decide) rfl dX5_joined_1 ?_
    refine V_iload_n 53 2 rfl rfl dX5_joined_52 rfl ?_
    refine V_if_ne 60 56 rfl dX5_joined_53 rfl (fun c53 => ?_) (fun c53 => ?_)
    · refine V_iload_n 61 1 rfl rfl dX5_joined_60 rfl ?_
      refine V_iload_n 62 2 rfl rfl dX5_joined_61 rfl ?_
      refine V_idiv 63 c53 dX5_joined_62 rfl ?_
      refine V_ret_i rfl rfl (Nat.le_refl _) (fun h => absurd h (by decide)) (Nat.le_refl _) (by rw [jnF] at hq; first | rw [if_pos c53] at hq; exact hq | rw [if_neg c53] at hq; exact hq) dX5_joined_63
    · refine V_iconst 57 (0) rfl dX5_joined_56 rfl ?_
      refine V_goto 63 rfl dX5_joined_57 ?_
      refine V_ret_i rfl rfl (Nat.le_refl _) (fun h => absurd h (by decide)) (Nat.le_refl _) (by rw [jnF] at hq; first | rw [if_pos c53] at hq; exact hq | rw [if_neg c53] at hq; exact hq) dX5_joined_63
  · refine V_iload_n 1 0 rfl rfl dX5_joined_0 rfl ?_
    refine V_tabIn (off := 63) 64 (by decide) (by decide) (by decide) rfl dX5_joined_1 ?_
    refine V_iload_n 65 2 rfl rfl dX5_joined_64 rfl ?_
    refine V_if_ne 72 68 rfl dX5_joined_65 rfl (fun c65 => ?_) (fun c65 => ?_)
    · refine V_iload_n 73 1 rfl rfl dX5_joined_72 rfl ?_
      refine V_iload_n 74 2 rfl rfl dX5_joined_73 rfl ?_
      refine V_irem 75 c65 dX5_joined_74 rfl ?_
      refine V_ret_i rfl rfl (Nat.le_refl _) (fun h => absurd h (by decide)) (Nat.le_refl _) (by rw [jnF] at hq; first | rw [if_pos c65] at hq; exact hq | rw [if_neg c65] at hq; exact hq) dX5_joined_75
    · refine V_iconst 69 (0) rfl dX5_joined_68 rfl ?_
      refine V_goto 75 rfl dX5_joined_69 ?_
      refine V_ret_i rfl rfl (Nat.le_refl _) (fun h => absurd h (by decide)) (Nat.le_refl _) (by rw [jnF] at hq; first | rw [if_pos c65] at hq; exact hq | rw [if_neg c65] at hq; exact hq) dX5_joined_75
  · refine V_iload_n 1 0 rfl rfl dX5_joined_0 rfl ?_
    refine V_tabIn (off := 75) 76 (by decide) (by decide) (by decide) rfl dX5_joined_1 ?_
    refine V_iload_n 77 1 rfl rfl dX5_joined_76 rfl ?_
    refine V_iload_n 78 2 rfl rfl dX5_joined_77 rfl ?_
    refine V_icmp_ge 85 81 rfl dX5_joined_78 rfl (fun c78 => ?_) (fun c78 => ?_)
    · refine V_iload_n 86 2 rfl rfl dX5_joined_85 rfl ?_
      refine V_ret_i rfl rfl (Nat.le_refl _) (fun h => absurd h (by decide)) (Nat.le_refl _) (by have q : Q (.inl (some (.int (if b < a then b else a)))) 103 I R J := hq; first | (rw [jn7a c78] at q; exact q) | (rw [jn7b c78] at q; exact q)) dX5_joined_86
    · refine V_iload_n 82 1 rfl rfl dX5_joined_81 rfl ?_
      refine V_goto 86 rfl dX5_joined_82 ?_
      refine V_ret_i rfl rfl (Nat.le_refl _) (fun h => absurd h (by decide)) (Nat.le_refl _) (by have q : Q (.inl (some (.int (if b < a then b else a)))) 103 I R J := hq; first | (rw [jn7a c78] at q; exact q) | (rw [jn7b c78] at q; exact q)) dX5_joined_86
  · refine V_iload_n 1 0 rfl rfl dX5_joined_0 rfl ?_
    refine V_tabOut 87 (by decide) rfl dX5_joined_1 ?_
    refine V_iload_n 88 1 rfl rfl dX5_joined_87 rfl ?_
    refine V_iload_n 89 2 rfl rfl dX5_joined_88 rfl ?_
    refine V_icmp_le 96 92 rfl dX5_joined_89 rfl (fun c89 => ?_) (fun c89 => ?_)
    · refine V_iload_n 97 2 rfl rfl dX5_joined_96 rfl ?_
      refine V_ret_i rfl rfl (Nat.le_refl _) (fun h => absurd h (by decide)) (Nat.le_refl _) (by have q : Q (.inl (some (.int (if a < b then b else a)))) 103 I R J := hq; first | (rw [jn8a c89] at q; exact q) | (rw [jn8b c89] at q; exact q)) dX5_joined_97
    · refine V_iload_n 93 1 rfl rfl dX5_joined_92 rfl ?_
      refine V_goto 97 rfl dX5_joined_93 ?_
      refine V_ret_i rfl rfl (Nat.le_refl _) (fun h => absurd h (by decide)) (Nat.le_refl _) (by have q : Q (.inl (some (.int (if a < b then b else a)))) 103 I R J := hq; first | (rw [jn8a c89] at q; exact q) | (rw [jn8b c89] at q; exact q)) dX5_joined_97
def clF (x : Int32) : Int32 := if 0 < (if x < 99 then x else 99) then (if x < 99 then x else 99) else 0
def pvF (kd lf rt F W : DV) (i : Nat) : Int32 := if kd i = 0 then lf i else if kd i = 1 then F (lf i).toNatClampNeg else jnF (kd i).toNatClampNeg (W (lf i).toNatClampNeg) (W (rt i).toNatClampNeg)
def evP (kd lf rt F W0 : DV) : Nat → DV
  | 0 => W0
  | i + 1 => upd (evP kd lf rt F W0 i) i (pvF kd lf rt F (evP kd lf rt F W0 i) i)
def PtOk (kd lf rt : DV) (i : Nat) : Prop := kd i = 0 ∨ (kd i = 1 ∧ ∃ a, a < 8 ∧ lf i = nI a) ∨ ∃ k a b, 2 ≤ k ∧ k ≤ 8 ∧ a < i ∧ b < i ∧ kd i = nI k ∧ lf i = nI a ∧ rt i = nI b
theorem evP_in {kd lf rt F W W' : DV} : ∀ s, s ≤ 150 → (∀ i, i < s → PtOk kd lf rt i) → ∀ j, j < s → evP kd lf rt F W s j = evP kd lf rt F W' s j := by
  intro s
  induction s with
  | zero => intro _ _ j hj; exact absurd hj (Nat.not_lt_zero j)
  | succ s ih =>
    intro h15 h j hj
    have ih' := ih (by omega) (fun i hi => h i (by omega))
    rw [evP, evP]
    by_cases e : j = s
    · subst e
      rw [show upd (evP kd lf rt F W j) j (pvF kd lf rt F (evP kd lf rt F W j) j) j = pvF kd lf rt F (evP kd lf rt F W j) j from if_pos rfl, show upd (evP kd lf rt F W' j) j (pvF kd lf rt F (evP kd lf rt F W' j) j) j = pvF kd lf rt F (evP kd lf rt F W' j) j from if_pos rfl]
      unfold pvF
      rcases h j (by omega) with h0 | ⟨h1, -⟩ | ⟨k, a, b, -, -, ha, hb, -, ea, eb⟩
      · rw [if_pos h0, if_pos h0]
      · simp [h1]
      · by_cases c0 : kd j = 0
        · rw [if_pos c0, if_pos c0]
        · by_cases c1 : kd j = 1
          · rw [if_neg c0, if_neg c0, if_pos c1, if_pos c1]
          · rw [if_neg c0, if_neg c0, if_neg c1, if_neg c1, ea, eb]
            rw [nI_clamp (by omega), nI_clamp (by omega), ih' a ha, ih' b hb]
    · rw [show upd (evP kd lf rt F W s) s (pvF kd lf rt F (evP kd lf rt F W s) s) j = evP kd lf rt F W s j from if_neg e, show upd (evP kd lf rt F W' s) s (pvF kd lf rt F (evP kd lf rt F W' s) s) j = evP kd lf rt F W' s j from if_neg e]
      exact ih' j (by omega)
/-- the LAW that the object l holds: of the eight facts, how rough the sea is -/
def LawC (I : FI) (l : Nat) (f : DV → Int32) : Prop := ∃ s, 1 ≤ s ∧ s ≤ 150 ∧ I l 4 = nI s ∧ (∀ i, i < s → PtOk (I (l + 1)) (I (l + 2)) (I (l + 3)) i) ∧ ∀ F, f F = clF (evP (I (l + 1)) (I (l + 2)) (I (l + 3)) F (fun _ => 0) s (s - 1))
theorem upA_u {I : FI} {a j : Nat} {f : DV} {v : Int32} : up2 (upA I a f) a j v = upA I a (upd f j v) := by
  funext b
  by_cases h : b = a
  · subst h; rw [up2_s]; simp [upA]
  · rw [up2_n _ _ _ h]; simp [upA, h]
set_option maxHeartbeats 4000000 in
theorem c_X5_seaBy {G : Gx} {d : Nat} {I : FI} {R : FR} {J : FJ} {Q : Po} (hRK : RK R) {l : Nat} {f : DV → Int32} (hl : l = 11 ∨ l = 58) (hL : LawC I l f) (hq : ∀ I', (∀ a, a ≠ l + 4 → I' a = I a) → Q (.inl (some (.int (f (I 16))))) 103 I' R J) : Cc G mX5_seaBy (d + 1) 0 0 [rf G l, rf G 16] 103 I R J Q := by
  obtain ⟨s, h1, h150, hs, hp, hf⟩ := hL
  rcases hl with rfl | rfl
  · have hq : ∀ r, r = evP (I 12) (I 13) (I 14) (I 16) (I 15) s (s - 1) → Q (.inl (some (.int (clF r)))) 103 (upA I 15 (evP (I 12) (I 13) (I 14) (I 16) (I 15) s)) R J := fun r hr => by
      have h2 := hq (upA I 15 (evP (I 12) (I 13) (I 14) (I 16) (I 15) s)) (fun a ha => by simp [upA, ha])
      rw [hf, evP_in (W' := I 15) s h150 hp (s - 1) (by omega)] at h2
      rw [hr]; exact h2
    have L : ∀ i, i ≤ s → ∀ r : Int32, (0 < i → r = evP (I 12) (I 13) (I 14) (I 16) (I 15) i (i - 1)) → V G mX5_seaBy (d + 1) 0 0 0 0 4 [(3, .int (nI i)), (2, .int r), (0, rf G 11), (1, rf G 16)] [] 103 (upA I 15 (evP (I 12) (I 13) (I 14) (I 16) (I 15) i)) R J Q := by
      refine loopd s (fun r hr => ?_) (fun i hi ih r hr => ?_)
      · refine V_iload_n 5 0 rfl rfl dX5_seaBy_4 rfl ?_
        refine V_aload_n 6 2 rfl _ rfl rfl dX5_seaBy_5 rfl ?_
        refine V_getI 9 11 5 4 (nI s) hs flX5_27 rfl rfl rfl (by decide) dX5_seaBy_6 rfl ?_
        refine V_icmp_ge 94 12 rfl dX5_seaBy_9 rfl (fun c9 => ?_) (fun c9 => absurd (Int32.le_refl _) c9)
        refine V_iconst 95 (0) rfl dX5_seaBy_94 rfl ?_
        refine V_bipush 97 (99) rfl dX5_seaBy_95 rfl ?_
        refine V_iload_n 98 1 rfl rfl dX5_seaBy_97 rfl ?_
        refine V_min 101 lkX5_117 (Nat.le_refl _) (Nat.le_refl _) (Nat.le_of_ble_eq_true rfl) dX5_seaBy_98 rfl ?_
        refine V_max 104 lkX5_122 (Nat.le_refl _) (Nat.le_refl _) (Nat.le_of_ble_eq_true rfl) dX5_seaBy_101 rfl ?_
        refine V_ret_i rfl rfl (Nat.le_refl _) (fun h => absurd h (by decide)) (Nat.le_refl _) (hq r (hr (by omega))) dX5_seaBy_104
      · have hW : evP (I 12) (I 13) (I 14) (I 16) (I 15) (i + 1) = upd (evP (I 12) (I 13) (I 14) (I 16) (I 15) i) i (pvF (I 12) (I 13) (I 14) (I 16) (evP (I 12) (I 13) (I 14) (I 16) (I 15) i) i) := rfl
        have hp1 := hp i hi
        rcases hp1 with k0 | ⟨k1, a, ha, ea⟩ | ⟨k, a, b, k2, k8, ha, hb, ek, ea, eb⟩
        · refine V_iload_n 5 0 rfl rfl dX5_seaBy_4 rfl ?_
          refine V_aload_n 6 2 rfl _ rfl rfl dX5_seaBy_5 rfl ?_
          refine V_getI 9 11 5 4 (nI s) hs flX5_27 rfl rfl rfl (by decide) dX5_seaBy_6 rfl ?_
          refine V_icmp_ge 94 12 rfl dX5_seaBy_9 rfl (fun c9 => absurd c9 (nI_ge hi (by omega))) (fun c9 => ?_)
          refine V_aload_n 13 2 rfl _ rfl rfl dX5_seaBy_12 rfl ?_
          refine V_getR 16 11 5 1 13 (hRK 11 1 (by decide) (by decide) (by decide)) flX5_15 rfl rfl rfl (by decide) dX5_seaBy_13 rfl ?_
          refine V_iload_n 17 0 rfl rfl dX5_seaBy_16 rfl ?_
          refine V_ialdN 18 13 150 i (I 13 i) rfl (by omega) (by decide) rfl (by decide) dX5_seaBy_17 rfl ?_
          refine V_istore 20 [(4, .int (I 13 i)), (3, .int (nI i)), (2, .int r), (0, rf G 11), (1, rf G 16)] (by decide) rfl dX5_seaBy_18 rfl ?_
          refine V_aload_n 21 3 rfl _ rfl rfl dX5_seaBy_20 rfl ?_
          refine V_getR 24 11 5 0 12 (hRK 11 0 (by decide) (by decide) (by decide)) flX5_9 rfl rfl rfl (by decide) dX5_seaBy_21 rfl ?_
          refine V_iload_n 25 1 rfl rfl dX5_seaBy_24 rfl ?_
          refine V_ialdN 26 12 150 i 0 k0 (by omega) (by decide) rfl (by decide) dX5_seaBy_25 rfl ?_
          refine V_if_ne 35 29 rfl dX5_seaBy_26 rfl (fun c26 => absurd c26 (by decide)) (fun c26 => ?_)
          refine V_iload 31 0 rfl dX5_seaBy_29 rfl ?_
          refine V_istore_n 32 [(2, .int (I 13 i)), (4, .int (I 13 i)), (3, .int (nI i)), (0, rf G 11), (1, rf G 16)] (by decide) rfl rfl dX5_seaBy_31 rfl ?_
          refine V_goto 81 rfl dX5_seaBy_32 ?_
          refine V_aload_n 82 3 rfl _ rfl rfl dX5_seaBy_81 rfl ?_
          refine V_getR 85 11 5 3 15 (hRK 11 3 (by decide) (by decide) (by decide)) flX5_21 rfl rfl rfl (by decide) dX5_seaBy_82 rfl ?_
          refine V_iload_n 86 2 rfl rfl dX5_seaBy_85 rfl ?_
          refine V_iload_n 87 0 rfl rfl dX5_seaBy_86 rfl ?_
          refine V_iastN 88 15 150 i (by omega) (by decide) rfl (by decide) dX5_seaBy_87 rfl ?_
          refine V_iinc 91 2 rfl (nI (i + 1)) [(3, .int (nI (i + 1))), (2, .int (I 13 i)), (4, .int (I 13 i)), (0, rf G 11), (1, rf G 16)] (nI_1 _) (by decide) rfl dX5_seaBy_88 rfl ?_
          refine V_goto 4 rfl dX5_seaBy_91 ?_
          rw [upA_u]
          have e9 : pvF (I 12) (I 13) (I 14) (I 16) (evP (I 12) (I 13) (I 14) (I 16) (I 15) i) i = I 13 i := by unfold pvF; rw [if_pos k0]
          rw [hW, e9] at ih
          exact V_lv [0, 1, 3, 4] rfl (ih _ (fun _ => by rw [show i + 1 - 1 = i from rfl]; exact (if_pos rfl).symm))
        · refine V_iload_n 5 0 rfl rfl dX5_seaBy_4 rfl ?_
          refine V_aload_n 6 2 rfl _ rfl rfl dX5_seaBy_5 rfl ?_
          refine V_getI 9 11 5 4 (nI s) hs flX5_27 rfl rfl rfl (by decide) dX5_seaBy_6 rfl ?_
          refine V_icmp_ge 94 12 rfl dX5_seaBy_9 rfl (fun c9 => absurd c9 (nI_ge hi (by omega))) (fun c9 => ?_)
          refine V_aload_n 13 2 rfl _ rfl rfl dX5_seaBy_12 rfl ?_
          refine V_getR 16 11 5 1 13 (hRK 11 1 (by decide) (by decide) (by decide)) flX5_15 rfl rfl rfl (by decide) dX5_seaBy_13 rfl ?_
          refine V_iload_n 17 0 rfl rfl dX5_seaBy_16 rfl ?_
          refine V_ialdN 18 13 150 i (nI a) ea (by omega) (by decide) rfl (by decide) dX5_seaBy_17 rfl ?_
          refine V_istore 20 [(4, .int (nI a)), (3, .int (nI i)), (2, .int r), (0, rf G 11), (1, rf G 16)] (by decide) rfl dX5_seaBy_18 rfl ?_
          refine V_aload_n 21 3 rfl _ rfl rfl dX5_seaBy_20 rfl ?_
          refine V_getR 24 11 5 0 12 (hRK 11 0 (by decide) (by decide) (by decide)) flX5_9 rfl rfl rfl (by decide) dX5_seaBy_21 rfl ?_
          refine V_iload_n 25 1 rfl rfl dX5_seaBy_24 rfl ?_
          refine V_ialdN 26 12 150 i 1 k1 (by omega) (by decide) rfl (by decide) dX5_seaBy_25 rfl ?_
          refine V_if_ne 35 29 rfl dX5_seaBy_26 rfl (fun c26 => ?_) (fun c26 => absurd c26 (by decide))
          refine V_aload_n 36 3 rfl _ rfl rfl dX5_seaBy_35 rfl ?_
          refine V_getR 39 11 5 0 12 (hRK 11 0 (by decide) (by decide) (by decide)) flX5_9 rfl rfl rfl (by decide) dX5_seaBy_36 rfl ?_
          refine V_iload_n 40 1 rfl rfl dX5_seaBy_39 rfl ?_
          refine V_ialdN 41 12 150 i 1 k1 (by omega) (by decide) rfl (by decide) dX5_seaBy_40 rfl ?_
          refine V_iconst 42 (1) rfl dX5_seaBy_41 rfl ?_
          refine V_icmp_ne 53 45 rfl dX5_seaBy_42 rfl (fun c42 => absurd c42 (by decide)) (fun c42 => ?_)
          refine V_aload_n 46 4 rfl _ rfl rfl dX5_seaBy_45 rfl ?_
          refine V_iload 48 0 rfl dX5_seaBy_46 rfl ?_
          refine V_ialdN 49 16 8 a (I 16 a) rfl (by omega) (by decide) rfl (by decide) dX5_seaBy_48 rfl ?_
          refine V_istore_n 50 [(2, .int (I 16 a)), (4, .int (nI a)), (3, .int (nI i)), (0, rf G 11), (1, rf G 16)] (by decide) rfl rfl dX5_seaBy_49 rfl ?_
          refine V_goto 81 rfl dX5_seaBy_50 ?_
          refine V_aload_n 82 3 rfl _ rfl rfl dX5_seaBy_81 rfl ?_
          refine V_getR 85 11 5 3 15 (hRK 11 3 (by decide) (by decide) (by decide)) flX5_21 rfl rfl rfl (by decide) dX5_seaBy_82 rfl ?_
          refine V_iload_n 86 2 rfl rfl dX5_seaBy_85 rfl ?_
          refine V_iload_n 87 0 rfl rfl dX5_seaBy_86 rfl ?_
          refine V_iastN 88 15 150 i (by omega) (by decide) rfl (by decide) dX5_seaBy_87 rfl ?_
          refine V_iinc 91 2 rfl (nI (i + 1)) [(3, .int (nI (i + 1))), (2, .int (I 16 a)), (4, .int (nI a)), (0, rf G 11), (1, rf G 16)] (nI_1 _) (by decide) rfl dX5_seaBy_88 rfl ?_
          refine V_goto 4 rfl dX5_seaBy_91 ?_
          rw [upA_u]
          have e9 : pvF (I 12) (I 13) (I 14) (I 16) (evP (I 12) (I 13) (I 14) (I 16) (I 15) i) i = I 16 a := by unfold pvF; rw [k1, if_neg (by decide), if_pos rfl, ea, nI_clamp (by omega)]
          rw [hW, e9] at ih
          exact V_lv [0, 1, 3, 4] rfl (ih _ (fun _ => by rw [show i + 1 - 1 = i from rfl]; exact (if_pos rfl).symm))
        · have n0 : ¬ nI k = 0 := nI_ne0 (by omega) (by omega)
          have n1 : ¬ nI k = 1 := fun h => by have := (nI_eq (a := k) (b := 1) (by omega) (by decide)).mp h; omega
          refine V_iload_n 5 0 rfl rfl dX5_seaBy_4 rfl ?_
          refine V_aload_n 6 2 rfl _ rfl rfl dX5_seaBy_5 rfl ?_
          refine V_getI 9 11 5 4 (nI s) hs flX5_27 rfl rfl rfl (by decide) dX5_seaBy_6 rfl ?_
          refine V_icmp_ge 94 12 rfl dX5_seaBy_9 rfl (fun c9 => absurd c9 (nI_ge hi (by omega))) (fun c9 => ?_)
          refine V_aload_n 13 2 rfl _ rfl rfl dX5_seaBy_12 rfl ?_
          refine V_getR 16 11 5 1 13 (hRK 11 1 (by decide) (by decide) (by decide)) flX5_15 rfl rfl rfl (by decide) dX5_seaBy_13 rfl ?_
          refine V_iload_n 17 0 rfl rfl dX5_seaBy_16 rfl ?_
          refine V_ialdN 18 13 150 i (nI a) ea (by omega) (by decide) rfl (by decide) dX5_seaBy_17 rfl ?_
          refine V_istore 20 [(4, .int (nI a)), (3, .int (nI i)), (2, .int r), (0, rf G 11), (1, rf G 16)] (by decide) rfl dX5_seaBy_18 rfl ?_
          refine V_aload_n 21 3 rfl _ rfl rfl dX5_seaBy_20 rfl ?_
          refine V_getR 24 11 5 0 12 (hRK 11 0 (by decide) (by decide) (by decide)) flX5_9 rfl rfl rfl (by decide) dX5_seaBy_21 rfl ?_
          refine V_iload_n 25 1 rfl rfl dX5_seaBy_24 rfl ?_
          refine V_ialdN 26 12 150 i (nI k) ek (by omega) (by decide) rfl (by decide) dX5_seaBy_25 rfl ?_
          refine V_if_ne 35 29 rfl dX5_seaBy_26 rfl (fun c26 => ?_) (fun c26 => absurd c26 n0)
          refine V_aload_n 36 3 rfl _ rfl rfl dX5_seaBy_35 rfl ?_
          refine V_getR 39 11 5 0 12 (hRK 11 0 (by decide) (by decide) (by decide)) flX5_9 rfl rfl rfl (by decide) dX5_seaBy_36 rfl ?_
          refine V_iload_n 40 1 rfl rfl dX5_seaBy_39 rfl ?_
          refine V_ialdN 41 12 150 i (nI k) ek (by omega) (by decide) rfl (by decide) dX5_seaBy_40 rfl ?_
          refine V_iconst 42 (1) rfl dX5_seaBy_41 rfl ?_
          refine V_icmp_ne 53 45 rfl dX5_seaBy_42 rfl (fun c42 => ?_) (fun c42 => absurd c42 n1)
          refine V_aload_n 54 3 rfl _ rfl rfl dX5_seaBy_53 rfl ?_
          refine V_getR 57 11 5 0 12 (hRK 11 0 (by decide) (by decide) (by decide)) flX5_9 rfl rfl rfl (by decide) dX5_seaBy_54 rfl ?_
          refine V_iload_n 58 1 rfl rfl dX5_seaBy_57 rfl ?_
          refine V_ialdN 59 12 150 i (nI k) ek (by omega) (by decide) rfl (by decide) dX5_seaBy_58 rfl ?_
          refine V_aload_n 60 3 rfl _ rfl rfl dX5_seaBy_59 rfl ?_
          refine V_getR 63 11 5 3 15 (hRK 11 3 (by decide) (by decide) (by decide)) flX5_21 rfl rfl rfl (by decide) dX5_seaBy_60 rfl ?_
          refine V_iload 65 0 rfl dX5_seaBy_63 rfl ?_
          refine V_ialdN 66 15 150 a (evP (I 12) (I 13) (I 14) (I 16) (I 15) i a) rfl (by omega) (by decide) rfl (by decide) dX5_seaBy_65 rfl ?_
          refine V_aload_n 67 3 rfl _ rfl rfl dX5_seaBy_66 rfl ?_
          refine V_getR 70 11 5 3 15 (hRK 11 3 (by decide) (by decide) (by decide)) flX5_21 rfl rfl rfl (by decide) dX5_seaBy_67 rfl ?_
          refine V_aload_n 71 3 rfl _ rfl rfl dX5_seaBy_70 rfl ?_
          refine V_getR 74 11 5 2 14 (hRK 11 2 (by decide) (by decide) (by decide)) flX5_18 rfl rfl rfl (by decide) dX5_seaBy_71 rfl ?_
          refine V_iload_n 75 1 rfl rfl dX5_seaBy_74 rfl ?_
          refine V_ialdN 76 14 150 i (nI b) eb (by omega) (by decide) rfl (by decide) dX5_seaBy_75 rfl ?_
          refine V_ialdN 77 15 150 b (evP (I 12) (I 13) (I 14) (I 16) (I 15) i b) rfl (by omega) (by decide) rfl (by decide) dX5_seaBy_76 rfl ?_
          refine V_callS (K' := 0) (S' := 0) 80 3 [.int (nI k), .int (evP (I 12) (I 13) (I 14) (I 16) (I 15) i a), .int (evP (I 12) (I 13) (I 14) (I 16) (I 15) i b)] mkX5_joined lkX5_114 rfl (Nat.le_of_ble_eq_true rfl) (Nat.le_of_ble_eq_true rfl) (Nat.le_of_ble_eq_true rfl) (Nat.le_of_ble_eq_true rfl) rfl rfl dX5_seaBy_77 rfl (c_X5_joined k2 k8 ?_)
          refine Kq_i (k' := 0) (sl' := 0) rfl rfl ?_
          refine V_istore_n 81 [(2, .int (jnF k (evP (I 12) (I 13) (I 14) (I 16) (I 15) i a) (evP (I 12) (I 13) (I 14) (I 16) (I 15) i b))), (4, .int (nI a)), (3, .int (nI i)), (0, rf G 11), (1, rf G 16)] (by decide) rfl rfl dX5_seaBy_80 rfl ?_
          refine V_aload_n 82 3 rfl _ rfl rfl dX5_seaBy_81 rfl ?_
          refine V_getR 85 11 5 3 15 (hRK 11 3 (by decide) (by decide) (by decide)) flX5_21 rfl rfl rfl (by decide) dX5_seaBy_82 rfl ?_
          refine V_iload_n 86 2 rfl rfl dX5_seaBy_85 rfl ?_
          refine V_iload_n 87 0 rfl rfl dX5_seaBy_86 rfl ?_
          refine V_iastN 88 15 150 i (by omega) (by decide) rfl (by decide) dX5_seaBy_87 rfl ?_
          refine V_iinc 91 2 rfl (nI (i + 1)) [(3, .int (nI (i + 1))), (2, .int (jnF k (evP (I 12) (I 13) (I 14) (I 16) (I 15) i a) (evP (I 12) (I 13) (I 14) (I 16) (I 15) i b))), (4, .int (nI a)), (0, rf G 11), (1, rf G 16)] (nI_1 _) (by decide) rfl dX5_seaBy_88 rfl ?_
          refine V_goto 4 rfl dX5_seaBy_91 ?_
          rw [upA_u]
          have e9 : pvF (I 12) (I 13) (I 14) (I 16) (evP (I 12) (I 13) (I 14) (I 16) (I 15) i) i = jnF k (evP (I 12) (I 13) (I 14) (I 16) (I 15) i a) (evP (I 12) (I 13) (I 14) (I 16) (I 15) i b) := by unfold pvF; rw [ek, if_neg n0, if_neg n1, ea, eb, nI_clamp (by omega), nI_clamp (by omega), nI_clamp (by omega)]
          rw [hW, e9] at ih
          exact V_lv [0, 1, 3, 4] rfl (ih _ (fun _ => by rw [show i + 1 - 1 = i from rfl]; exact (if_pos rfl).symm))
    show V _ _ _ _ _ _ _ _ [(0, rf G 11), (1, rf G 16)] [] _ _ _ _ _
    have e0 : I = upA I 15 (evP (I 12) (I 13) (I 14) (I 16) (I 15) 0) := by funext a; by_cases h : a = 15 <;> simp [upA, evP, h]
    refine V_iconst 1 (0) rfl dX5_seaBy_0 rfl ?_
    refine V_istore_n 2 [(2, .int 0), (0, rf G 11), (1, rf G 16)] (by decide) rfl rfl dX5_seaBy_1 rfl ?_
    refine V_iconst 3 (0) rfl dX5_seaBy_2 rfl ?_
    refine V_istore_n 4 [(3, .int 0), (2, .int 0), (0, rf G 11), (1, rf G 16)] (by decide) rfl rfl dX5_seaBy_3 rfl ?_
    refine V_rwI e0 ?_
    exact V_lv [0, 1, 2, 3] rfl (L 0 (Nat.zero_le _) 0 (fun h => absurd h (by decide)))
  · have hq : ∀ r, r = evP (I 59) (I 60) (I 61) (I 16) (I 62) s (s - 1) → Q (.inl (some (.int (clF r)))) 103 (upA I 62 (evP (I 59) (I 60) (I 61) (I 16) (I 62) s)) R J := fun r hr => by
      have h2 := hq (upA I 62 (evP (I 59) (I 60) (I 61) (I 16) (I 62) s)) (fun a ha => by simp [upA, ha])
      rw [hf, evP_in (W' := I 62) s h150 hp (s - 1) (by omega)] at h2
      rw [hr]; exact h2
    have L : ∀ i, i ≤ s → ∀ r : Int32, (0 < i → r = evP (I 59) (I 60) (I 61) (I 16) (I 62) i (i - 1)) → V G mX5_seaBy (d + 1) 0 0 0 0 4 [(3, .int (nI i)), (2, .int r), (0, rf G 58), (1, rf G 16)] [] 103 (upA I 62 (evP (I 59) (I 60) (I 61) (I 16) (I 62) i)) R J Q := by
      refine loopd s (fun r hr => ?_) (fun i hi ih r hr => ?_)
      · refine V_iload_n 5 0 rfl rfl dX5_seaBy_4 rfl ?_
        refine V_aload_n 6 2 rfl _ rfl rfl dX5_seaBy_5 rfl ?_
        refine V_getI 9 58 5 4 (nI s) hs flX5_27 rfl rfl rfl (by decide) dX5_seaBy_6 rfl ?_
        refine V_icmp_ge 94 12 rfl dX5_seaBy_9 rfl (fun c9 => ?_) (fun c9 => absurd (Int32.le_refl _) c9)
        refine V_iconst 95 (0) rfl dX5_seaBy_94 rfl ?_
        refine V_bipush 97 (99) rfl dX5_seaBy_95 rfl ?_
        refine V_iload_n 98 1 rfl rfl dX5_seaBy_97 rfl ?_
        refine V_min 101 lkX5_117 (Nat.le_refl _) (Nat.le_refl _) (Nat.le_of_ble_eq_true rfl) dX5_seaBy_98 rfl ?_
        refine V_max 104 lkX5_122 (Nat.le_refl _) (Nat.le_refl _) (Nat.le_of_ble_eq_true rfl) dX5_seaBy_101 rfl ?_
        refine V_ret_i rfl rfl (Nat.le_refl _) (fun h => absurd h (by decide)) (Nat.le_refl _) (hq r (hr (by omega))) dX5_seaBy_104
      · have hW : evP (I 59) (I 60) (I 61) (I 16) (I 62) (i + 1) = upd (evP (I 59) (I 60) (I 61) (I 16) (I 62) i) i (pvF (I 59) (I 60) (I 61) (I 16) (evP (I 59) (I 60) (I 61) (I 16) (I 62) i) i) := rfl
        have hp1 := hp i hi
        rcases hp1 with k0 | ⟨k1, a, ha, ea⟩ | ⟨k, a, b, k2, k8, ha, hb, ek, ea, eb⟩
        · refine V_iload_n 5 0 rfl rfl dX5_seaBy_4 rfl ?_
          refine V_aload_n 6 2 rfl _ rfl rfl dX5_seaBy_5 rfl ?_
          refine V_getI 9 58 5 4 (nI s) hs flX5_27 rfl rfl rfl (by decide) dX5_seaBy_6 rfl ?_
          refine V_icmp_ge 94 12 rfl dX5_seaBy_9 rfl (fun c9 => absurd c9 (nI_ge hi (by omega))) (fun c9 => ?_)
          refine V_aload_n 13 2 rfl _ rfl rfl dX5_seaBy_12 rfl ?_
          refine V_getR 16 58 5 1 60 (hRK 58 1 (by decide) (by decide) (by decide)) flX5_15 rfl rfl rfl (by decide) dX5_seaBy_13 rfl ?_
          refine V_iload_n 17 0 rfl rfl dX5_seaBy_16 rfl ?_
          refine V_ialdN 18 60 150 i (I 60 i) rfl (by omega) (by decide) rfl (by decide) dX5_seaBy_17 rfl ?_
          refine V_istore 20 [(4, .int (I 60 i)), (3, .int (nI i)), (2, .int r), (0, rf G 58), (1, rf G 16)] (by decide) rfl dX5_seaBy_18 rfl ?_
          refine V_aload_n 21 3 rfl _ rfl rfl dX5_seaBy_20 rfl ?_
          refine V_getR 24 58 5 0 59 (hRK 58 0 (by decide) (by decide) (by decide)) flX5_9 rfl rfl rfl (by decide) dX5_seaBy_21 rfl ?_
          refine V_iload_n 25 1 rfl rfl dX5_seaBy_24 rfl ?_
          refine V_ialdN 26 59 150 i 0 k0 (by omega) (by decide) rfl (by decide) dX5_seaBy_25 rfl ?_
          refine V_if_ne 35 29 rfl dX5_seaBy_26 rfl (fun c26 => absurd c26 (by decide)) (fun c26 => ?_)
          refine V_iload 31 0 rfl dX5_seaBy_29 rfl ?_
          refine V_istore_n 32 [(2, .int (I 60 i)), (4, .int (I 60 i)), (3, .int (nI i)), (0, rf G 58), (1, rf G 16)] (by decide) rfl rfl dX5_seaBy_31 rfl ?_
          refine V_goto 81 rfl dX5_seaBy_32 ?_
          refine V_aload_n 82 3 rfl _ rfl rfl dX5_seaBy_81 rfl ?_
          refine V_getR 85 58 5 3 62 (hRK 58 3 (by decide) (by decide) (by decide)) flX5_21 rfl rfl rfl (by decide) dX5_seaBy_82 rfl ?_
          refine V_iload_n 86 2 rfl rfl dX5_seaBy_85 rfl ?_
          refine V_iload_n 87 0 rfl rfl dX5_seaBy_86 rfl ?_
          refine V_iastN 88 62 150 i (by omega) (by decide) rfl (by decide) dX5_seaBy_87 rfl ?_
          refine V_iinc 91 2 rfl (nI (i + 1)) [(3, .int (nI (i + 1))), (2, .int (I 60 i)), (4, .int (I 60 i)), (0, rf G 58), (1, rf G 16)] (nI_1 _) (by decide) rfl dX5_seaBy_88 rfl ?_
          refine V_goto 4 rfl dX5_seaBy_91 ?_
          rw [upA_u]
          have e9 : pvF (I 59) (I 60) (I 61) (I 16) (evP (I 59) (I 60) (I 61) (I 16) (I 62) i) i = I 60 i := by unfold pvF; rw [if_pos k0]
          rw [hW, e9] at ih
          exact V_lv [0, 1, 3, 4] rfl (ih _ (fun _ => by rw [show i + 1 - 1 = i from rfl]; exact (if_pos rfl).symm))
        · refine V_iload_n 5 0 rfl rfl dX5_seaBy_4 rfl ?_
          refine V_aload_n 6 2 rfl _ rfl rfl dX5_seaBy_5 rfl ?_
          refine V_getI 9 58 5 4 (nI s) hs flX5_27 rfl rfl rfl (by decide) dX5_seaBy_6 rfl ?_
          refine V_icmp_ge 94 12 rfl dX5_seaBy_9 rfl (fun c9 => absurd c9 (nI_ge hi (by omega))) (fun c9 => ?_)
          refine V_aload_n 13 2 rfl _ rfl rfl dX5_seaBy_12 rfl ?_
          refine V_getR 16 58 5 1 60 (hRK 58 1 (by decide) (by decide) (by decide)) flX5_15 rfl rfl rfl (by decide) dX5_seaBy_13 rfl ?_
          refine V_iload_n 17 0 rfl rfl dX5_seaBy_16 rfl ?_
          refine V_ialdN 18 60 150 i (nI a) ea (by omega) (by decide) rfl (by decide) dX5_seaBy_17 rfl ?_
          refine V_istore 20 [(4, .int (nI a)), (3, .int (nI i)), (2, .int r), (0, rf G 58), (1, rf G 16)] (by decide) rfl dX5_seaBy_18 rfl ?_
          refine V_aload_n 21 3 rfl _ rfl rfl dX5_seaBy_20 rfl ?_
          refine V_getR 24 58 5 0 59 (hRK 58 0 (by decide) (by decide) (by decide)) flX5_9 rfl rfl rfl (by decide) dX5_seaBy_21 rfl ?_
          refine V_iload_n 25 1 rfl rfl dX5_seaBy_24 rfl ?_
          refine V_ialdN 26 59 150 i 1 k1 (by omega) (by decide) rfl (by decide) dX5_seaBy_25 rfl ?_
          refine V_if_ne 35 29 rfl dX5_seaBy_26 rfl (fun c26 => ?_) (fun c26 => absurd c26 (by decide))
          refine V_aload_n 36 3 rfl _ rfl rfl dX5_seaBy_35 rfl ?_
          refine V_getR 39 58 5 0 59 (hRK 58 0 (by decide) (by decide) (by decide)) flX5_9 rfl rfl rfl (by decide) dX5_seaBy_36 rfl ?_
          refine V_iload_n 40 1 rfl rfl dX5_seaBy_39 rfl ?_
          refine V_ialdN 41 59 150 i 1 k1 (by omega) (by decide) rfl (by decide) dX5_seaBy_40 rfl ?_
          refine V_iconst 42 (1) rfl dX5_seaBy_41 rfl ?_
          refine V_icmp_ne 53 45 rfl dX5_seaBy_42 rfl (fun c42 => absurd c42 (by decide)) (fun c42 => ?_)
          refine V_aload_n 46 4 rfl _ rfl rfl dX5_seaBy_45 rfl ?_
          refine V_iload 48 0 rfl dX5_seaBy_46 rfl ?_
          refine V_ialdN 49 16 8 a (I 16 a) rfl (by omega) (by decide) rfl (by decide) dX5_seaBy_48 rfl ?_
          refine V_istore_n 50 [(2, .int (I 16 a)), (4, .int (nI a)), (3, .int (nI i)), (0, rf G 58), (1, rf G 16)] (by decide) rfl rfl dX5_seaBy_49 rfl ?_
          refine V_goto 81 rfl dX5_seaBy_50 ?_
          refine V_aload_n 82 3 rfl _ rfl rfl dX5_seaBy_81 rfl ?_
          refine V_getR 85 58 5 3 62 (hRK 58 3 (by decide) (by decide) (by decide)) flX5_21 rfl rfl rfl (by decide) dX5_seaBy_82 rfl ?_
          refine V_iload_n 86 2 rfl rfl dX5_seaBy_85 rfl ?_
          refine V_iload_n 87 0 rfl rfl dX5_seaBy_86 rfl ?_
          refine V_iastN 88 62 150 i (by omega) (by decide) rfl (by decide) dX5_seaBy_87 rfl ?_
          refine V_iinc 91 2 rfl (nI (i + 1)) [(3, .int (nI (i + 1))), (2, .int (I 16 a)), (4, .int (nI a)), (0, rf G 58), (1, rf G 16)] (nI_1 _) (by decide) rfl dX5_seaBy_88 rfl ?_
          refine V_goto 4 rfl dX5_seaBy_91 ?_
          rw [upA_u]
          have e9 : pvF (I 59) (I 60) (I 61) (I 16) (evP (I 59) (I 60) (I 61) (I 16) (I 62) i) i = I 16 a := by unfold pvF; rw [k1, if_neg (by decide), if_pos rfl, ea, nI_clamp (by omega)]
          rw [hW, e9] at ih
          exact V_lv [0, 1, 3, 4] rfl (ih _ (fun _ => by rw [show i + 1 - 1 = i from rfl]; exact (if_pos rfl).symm))
        · have n0 : ¬ nI k = 0 := nI_ne0 (by omega) (by omega)
          have n1 : ¬ nI k = 1 := fun h => by have := (nI_eq (a := k) (b := 1) (by omega) (by decide)).mp h; omega
          refine V_iload_n 5 0 rfl rfl dX5_seaBy_4 rfl ?_
          refine V_aload_n 6 2 rfl _ rfl rfl dX5_seaBy_5 rfl ?_
          refine V_getI 9 58 5 4 (nI s) hs flX5_27 rfl rfl rfl (by decide) dX5_seaBy_6 rfl ?_
          refine V_icmp_ge 94 12 rfl dX5_seaBy_9 rfl (fun c9 => absurd c9 (nI_ge hi (by omega))) (fun c9 => ?_)
          refine V_aload_n 13 2 rfl _ rfl rfl dX5_seaBy_12 rfl ?_
          refine V_getR 16 58 5 1 60 (hRK 58 1 (by decide) (by decide) (by decide)) flX5_15 rfl rfl rfl (by decide) dX5_seaBy_13 rfl ?_
          refine V_iload_n 17 0 rfl rfl dX5_seaBy_16 rfl ?_
          refine V_ialdN 18 60 150 i (nI a) ea (by omega) (by decide) rfl (by decide) dX5_seaBy_17 rfl ?_
          refine V_istore 20 [(4, .int (nI a)), (3, .int (nI i)), (2, .int r), (0, rf G 58), (1, rf G 16)] (by decide) rfl dX5_seaBy_18 rfl ?_
          refine V_aload_n 21 3 rfl _ rfl rfl dX5_seaBy_20 rfl ?_
          refine V_getR 24 58 5 0 59 (hRK 58 0 (by decide) (by decide) (by decide)) flX5_9 rfl rfl rfl (by decide) dX5_seaBy_21 rfl ?_
          refine V_iload_n 25 1 rfl rfl dX5_seaBy_24 rfl ?_
          refine V_ialdN 26 59 150 i (nI k) ek (by omega) (by decide) rfl (by decide) dX5_seaBy_25 rfl ?_
          refine V_if_ne 35 29 rfl dX5_seaBy_26 rfl (fun c26 => ?_) (fun c26 => absurd c26 n0)
          refine V_aload_n 36 3 rfl _ rfl rfl dX5_seaBy_35 rfl ?_
          refine V_getR 39 58 5 0 59 (hRK 58 0 (by decide) (by decide) (by decide)) flX5_9 rfl rfl rfl (by decide) dX5_seaBy_36 rfl ?_
          refine V_iload_n 40 1 rfl rfl dX5_seaBy_39 rfl ?_
          refine V_ialdN 41 59 150 i (nI k) ek (by omega) (by decide) rfl (by decide) dX5_seaBy_40 rfl ?_
          refine V_iconst 42 (1) rfl dX5_seaBy_41 rfl ?_
          refine V_icmp_ne 53 45 rfl dX5_seaBy_42 rfl (fun c42 => ?_) (fun c42 => absurd c42 n1)
          refine V_aload_n 54 3 rfl _ rfl rfl dX5_seaBy_53 rfl ?_
          refine V_getR 57 58 5 0 59 (hRK 58 0 (by decide) (by decide) (by decide)) flX5_9 rfl rfl rfl (by decide) dX5_seaBy_54 rfl ?_
          refine V_iload_n 58 1 rfl rfl dX5_seaBy_57 rfl ?_
          refine V_ialdN 59 59 150 i (nI k) ek (by omega) (by decide) rfl (by decide) dX5_seaBy_58 rfl ?_
          refine V_aload_n 60 3 rfl _ rfl rfl dX5_seaBy_59 rfl ?_
          refine V_getR 63 58 5 3 62 (hRK 58 3 (by decide) (by decide) (by decide)) flX5_21 rfl rfl rfl (by decide) dX5_seaBy_60 rfl ?_
          refine V_iload 65 0 rfl dX5_seaBy_63 rfl ?_
          refine V_ialdN 66 62 150 a (evP (I 59) (I 60) (I 61) (I 16) (I 62) i a) rfl (by omega) (by decide) rfl (by decide) dX5_seaBy_65 rfl ?_
          refine V_aload_n 67 3 rfl _ rfl rfl dX5_seaBy_66 rfl ?_
          refine V_getR 70 58 5 3 62 (hRK 58 3 (by decide) (by decide) (by decide)) flX5_21 rfl rfl rfl (by decide) dX5_seaBy_67 rfl ?_
          refine V_aload_n 71 3 rfl _ rfl rfl dX5_seaBy_70 rfl ?_
          refine V_getR 74 58 5 2 61 (hRK 58 2 (by decide) (by decide) (by decide)) flX5_18 rfl rfl rfl (by decide) dX5_seaBy_71 rfl ?_
          refine V_iload_n 75 1 rfl rfl dX5_seaBy_74 rfl ?_
          refine V_ialdN 76 61 150 i (nI b) eb (by omega) (by decide) rfl (by decide) dX5_seaBy_75 rfl ?_
          refine V_ialdN 77 62 150 b (evP (I 59) (I 60) (I 61) (I 16) (I 62) i b) rfl (by omega) (by decide) rfl (by decide) dX5_seaBy_76 rfl ?_
          refine V_callS (K' := 0) (S' := 0) 80 3 [.int (nI k), .int (evP (I 59) (I 60) (I 61) (I 16) (I 62) i a), .int (evP (I 59) (I 60) (I 61) (I 16) (I 62) i b)] mkX5_joined lkX5_114 rfl (Nat.le_of_ble_eq_true rfl) (Nat.le_of_ble_eq_true rfl) (Nat.le_of_ble_eq_true rfl) (Nat.le_of_ble_eq_true rfl) rfl rfl dX5_seaBy_77 rfl (c_X5_joined k2 k8 ?_)
          refine Kq_i (k' := 0) (sl' := 0) rfl rfl ?_
          refine V_istore_n 81 [(2, .int (jnF k (evP (I 59) (I 60) (I 61) (I 16) (I 62) i a) (evP (I 59) (I 60) (I 61) (I 16) (I 62) i b))), (4, .int (nI a)), (3, .int (nI i)), (0, rf G 58), (1, rf G 16)] (by decide) rfl rfl dX5_seaBy_80 rfl ?_
          refine V_aload_n 82 3 rfl _ rfl rfl dX5_seaBy_81 rfl ?_
          refine V_getR 85 58 5 3 62 (hRK 58 3 (by decide) (by decide) (by decide)) flX5_21 rfl rfl rfl (by decide) dX5_seaBy_82 rfl ?_
          refine V_iload_n 86 2 rfl rfl dX5_seaBy_85 rfl ?_
          refine V_iload_n 87 0 rfl rfl dX5_seaBy_86 rfl ?_
          refine V_iastN 88 62 150 i (by omega) (by decide) rfl (by decide) dX5_seaBy_87 rfl ?_
          refine V_iinc 91 2 rfl (nI (i + 1)) [(3, .int (nI (i + 1))), (2, .int (jnF k (evP (I 59) (I 60) (I 61) (I 16) (I 62) i a) (evP (I 59) (I 60) (I 61) (I 16) (I 62) i b))), (4, .int (nI a)), (0, rf G 58), (1, rf G 16)] (nI_1 _) (by decide) rfl dX5_seaBy_88 rfl ?_
          refine V_goto 4 rfl dX5_seaBy_91 ?_
          rw [upA_u]
          have e9 : pvF (I 59) (I 60) (I 61) (I 16) (evP (I 59) (I 60) (I 61) (I 16) (I 62) i) i = jnF k (evP (I 59) (I 60) (I 61) (I 16) (I 62) i a) (evP (I 59) (I 60) (I 61) (I 16) (I 62) i b) := by unfold pvF; rw [ek, if_neg n0, if_neg n1, ea, eb, nI_clamp (by omega), nI_clamp (by omega), nI_clamp (by omega)]
          rw [hW, e9] at ih
          exact V_lv [0, 1, 3, 4] rfl (ih _ (fun _ => by rw [show i + 1 - 1 = i from rfl]; exact (if_pos rfl).symm))
    show V _ _ _ _ _ _ _ _ [(0, rf G 58), (1, rf G 16)] [] _ _ _ _ _
    have e0 : I = upA I 62 (evP (I 59) (I 60) (I 61) (I 16) (I 62) 0) := by funext a; by_cases h : a = 62 <;> simp [upA, evP, h]
    refine V_iconst 1 (0) rfl dX5_seaBy_0 rfl ?_
    refine V_istore_n 2 [(2, .int 0), (0, rf G 58), (1, rf G 16)] (by decide) rfl rfl dX5_seaBy_1 rfl ?_
    refine V_iconst 3 (0) rfl dX5_seaBy_2 rfl ?_
    refine V_istore_n 4 [(3, .int 0), (2, .int 0), (0, rf G 58), (1, rf G 16)] (by decide) rfl rfl dX5_seaBy_3 rfl ?_
    refine V_rwI e0 ?_
    exact V_lv [0, 1, 2, 3] rfl (L 0 (Nat.zero_le _) 0 (fun h => absurd h (by decide)))
