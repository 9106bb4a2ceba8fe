/-! ===== hatted, given: the class ===== -/
def lsF (o : Option (Nat × Nat)) : Int32 := match o with
  | none => 2147483647
  | some w => nI w.2
theorem c_X0_priceWith {G : Gx} {d : Nat} {I : FI} {R : FR} {J : FJ} {Q : Po} (hRK : RK R) {t u h a v : Nat} (ht : t * 8 + h < 48) (hu : u < 256) (hh : h < 8) (hb : (nI u >>> (nI h &&& 31)) &&& 1 = 0) (e1 : I 46 (t * 8 + h) = nI a) (e2 : I 47 (u + 2 ^ h) = nI v) (hq : Q (.inl (some (.int (nI (a + v))))) 103 I R J) : Cc G mX0_priceWith d 0 0 [rf G 43, .int (nI t), .int (nI u), .int (nI h)] 103 I R J Q := by
  have o8 := or8 u hu h hh hb
  have o9 := o8.2.1
  show V _ _ _ _ _ _ _ _ [(0, rf G 43), (1, .int (nI t)), (2, .int (nI u)), (3, .int (nI h))] [] _ _ _ _ _
  refine V_aload_n 1 0 rfl _ rfl rfl dX0_priceWith_0 rfl ?_
  refine V_getR 4 43 0 2 46 (hRK 43 2 (by decide) (by decide) (by decide)) flX0_18 rfl rfl rfl (by decide) dX0_priceWith_1 rfl ?_
  refine V_iload_n 5 1 rfl rfl dX0_priceWith_4 rfl ?_
  refine V_bipush 7 (8) rfl dX0_priceWith_5 rfl ?_
  refine V_imul 8 dX0_priceWith_7 rfl ?_
  refine V_rw (pk_mul t 8) ?_
  refine V_iload_n 9 3 rfl rfl dX0_priceWith_8 rfl ?_
  refine V_iadd 10 dX0_priceWith_9 rfl ?_
  refine V_rw (nI_add (t * 8) h) ?_
  refine V_ialdN 11 46 48 ((t * 8) + h) (nI a) e1 (by omega) (by decide) rfl (by decide) dX0_priceWith_10 rfl ?_
  refine V_aload_n 12 0 rfl _ rfl rfl dX0_priceWith_11 rfl ?_
  refine V_getR 15 43 0 3 47 (hRK 43 3 (by decide) (by decide) (by decide)) flX0_21 rfl rfl rfl (by decide) dX0_priceWith_12 rfl ?_
  refine V_iload_n 16 2 rfl rfl dX0_priceWith_15 rfl ?_
  refine V_iconst 17 (1) rfl dX0_priceWith_16 rfl ?_
  refine V_iload_n 18 3 rfl rfl dX0_priceWith_17 rfl ?_
  refine V_ishl 19 dX0_priceWith_18 rfl ?_
  refine V_ior 20 dX0_priceWith_19 rfl ?_
  refine V_rw (show _ = nI (u + 2 ^ h) from o8.1) ?_
  refine V_ialdN 21 47 256 (u + 2 ^ h) (nI v) e2 (by omega) (by decide) rfl (by decide) dX0_priceWith_20 rfl ?_
  refine V_iadd 22 dX0_priceWith_21 rfl ?_
  refine V_rw (nI_add a v) ?_
  refine V_ret_i rfl rfl (Nat.le_of_ble_eq_true rfl) (fun h => absurd h (by decide)) (Nat.le_of_ble_eq_true rfl) (hq) dX0_priceWith_22
set_option maxHeartbeats 4000000 in
theorem c_X0_firstCheapest {G : Gx} {d : Nat} {I : FI} {R : FR} {J : FJ} {Q : Po} (hRK : RK R) {t u H : Nat} {c : Nat → Option Nat} {p : Nat → Nat} (ht : t ≤ 5) (hH : H ≤ 8) (hu : u < 2 ^ H) (hp : ∀ h, h < H → I 46 (t * 8 + h) = nI (p h) ∧ p h ≤ 99) (hc : ∀ h, h < H → (nI u >>> (nI h &&& 31)) &&& 1 = 0 → ∃ v, v ≤ 600 ∧ c (u + 2 ^ h) = some v ∧ I 47 (u + 2 ^ h) = nI v) (hq : Q (.inl (some (.int (oI ((fcF (qF c p u) H).map (·.1)))))) 103 I R J) : Cc G mX0_firstCheapest (d + 1) 0 0 [rf G 43, .int (nI t), .int (nI u), .int (nI H)] 103 I R J Q := by
  have p8 := pow8 hH
  have L : ∀ i, i ≤ H → V G mX0_firstCheapest (d + 1) 0 0 0 0 10 [(6, .int (nI i)), (4, .int (oI ((fcF (qF c p u) i).map (·.1)))), (5, .int (lsF (fcF (qF c p u) i))), (0, rf G 43), (1, .int (nI t)), (2, .int (nI u)), (3, .int (nI H))] [] 103 I R J Q := by
    refine loopd H ?_ (fun i hi ih => ?_)
    · refine V_iload 12 0 rfl dX0_firstCheapest_10 rfl ?_
      refine V_iload_n 13 6 rfl rfl dX0_firstCheapest_12 rfl ?_
      refine V_icmp_ge 58 16 rfl dX0_firstCheapest_13 rfl (fun c13 => ?_) (fun c13 => absurd (Int32.le_refl _) c13)
      refine V_iload 60 1 rfl dX0_firstCheapest_58 rfl ?_
      refine V_ret_i rfl rfl (Nat.le_of_ble_eq_true rfl) (fun h => absurd h (by decide)) (Nat.le_of_ble_eq_true rfl) (hq) dX0_firstCheapest_60
    · by_cases cb : (nI u >>> (nI i &&& 31)) &&& 1 = 0
      · obtain ⟨v, v6, v1, v2⟩ := hc i hi cb
        obtain ⟨p1, p2⟩ := hp i hi
        have eq : qF c p u i = some (p i + v) := by unfold qF; rw [if_pos cb, v1]; rfl
        cases e : fcF (qF c p u) i with
        | none =>
          rw [fc_0 eq e] at ih
          show V _ _ _ _ _ _ _ _ [(6, .int (nI i)), (4, .int (-1)), (5, .int 2147483647), (0, rf G 43), (1, .int (nI t)), (2, .int (nI u)), (3, .int (nI H))] [] _ _ _ _ _
          refine V_iload 12 0 rfl dX0_firstCheapest_10 rfl ?_
          refine V_iload_n 13 6 rfl rfl dX0_firstCheapest_12 rfl ?_
          refine V_icmp_ge 58 16 rfl dX0_firstCheapest_13 rfl (fun c13 => absurd c13 (nI_ge hi (by omega))) (fun c13 => ?_)
          refine V_iload_n 17 5 rfl rfl dX0_firstCheapest_16 rfl ?_
          refine V_iload 19 0 rfl dX0_firstCheapest_17 rfl ?_
          refine V_ishr 20 dX0_firstCheapest_19 rfl ?_
          refine V_iconst 21 (1) rfl dX0_firstCheapest_20 rfl ?_
          refine V_iand 22 dX0_firstCheapest_21 rfl ?_
          refine V_if_ne 52 25 rfl dX0_firstCheapest_22 rfl (fun c22 => absurd cb c22) (fun c22 => ?_)
          refine V_aload_n 26 3 rfl _ rfl rfl dX0_firstCheapest_25 rfl ?_
          refine V_iload_n 27 4 rfl rfl dX0_firstCheapest_26 rfl ?_
          refine V_iload_n 28 5 rfl rfl dX0_firstCheapest_27 rfl ?_
          refine V_iload 30 0 rfl dX0_firstCheapest_28 rfl ?_
          refine V_callV (K' := 0) (S' := 0) 33 43 0 3 [.int (nI t), .int (nI u), .int (nI i)] mkX0_priceWith lkX0_95 (by decide) rfl rfl (by decide) rfl (Nat.le_of_ble_eq_true rfl) (Nat.le_of_ble_eq_true rfl) (Nat.le_of_ble_eq_true rfl) (Nat.le_of_ble_eq_true rfl) rfl rfl dX0_firstCheapest_30 rfl (c_X0_priceWith hRK (by omega) (by omega) (by omega) cb p1 v2 ?_)
          refine Kq_i (k' := 0) (sl' := 0) rfl rfl ?_
          refine V_iload 35 2 rfl dX0_firstCheapest_33 rfl ?_
          refine V_icmp_ge 52 38 rfl dX0_firstCheapest_35 rfl (fun c35 => absurd c35 (nI_ge (b := 2147483647) (show p i + v < 2147483647 by omega) (by decide))) (fun c35 => ?_)
          refine V_aload_n 39 3 rfl _ rfl rfl dX0_firstCheapest_38 rfl ?_
          refine V_iload_n 40 4 rfl rfl dX0_firstCheapest_39 rfl ?_
          refine V_iload_n 41 5 rfl rfl dX0_firstCheapest_40 rfl ?_
          refine V_iload 43 0 rfl dX0_firstCheapest_41 rfl ?_
          refine V_callV (K' := 0) (S' := 0) 46 43 0 3 [.int (nI t), .int (nI u), .int (nI i)] mkX0_priceWith lkX0_95 (by decide) rfl rfl (by decide) rfl (Nat.le_of_ble_eq_true rfl) (Nat.le_of_ble_eq_true rfl) (Nat.le_of_ble_eq_true rfl) (Nat.le_of_ble_eq_true rfl) rfl rfl dX0_firstCheapest_43 rfl (c_X0_priceWith hRK (by omega) (by omega) (by omega) cb p1 v2 ?_)
          refine Kq_i (k' := 0) (sl' := 0) rfl rfl ?_
          refine V_istore 48 [(5, .int (nI (p i + v))), (6, .int (nI i)), (4, .int (-1)), (0, rf G 43), (1, .int (nI t)), (2, .int (nI u)), (3, .int (nI H))] (by decide) rfl dX0_firstCheapest_46 rfl ?_
          refine V_iload 50 1 rfl dX0_firstCheapest_48 rfl ?_
          refine V_istore 52 [(4, .int (nI i)), (5, .int (nI (p i + v))), (6, .int (nI i)), (0, rf G 43), (1, .int (nI t)), (2, .int (nI u)), (3, .int (nI H))] (by decide) rfl dX0_firstCheapest_50 rfl ?_
          refine V_iinc 55 2 rfl (nI (i + 1)) [(6, .int (nI (i + 1))), (4, .int (nI i)), (5, .int (nI (p i + v))), (0, rf G 43), (1, .int (nI t)), (2, .int (nI u)), (3, .int (nI H))] (nI_1 _) (by decide) rfl dX0_firstCheapest_52 rfl ?_
          refine V_goto 10 rfl dX0_firstCheapest_55 ?_
          exact V_lv [0, 1, 2, 3, 4, 5, 6] rfl ih
        | some w =>
          obtain ⟨w1, w2⟩ := w
          have w9 : w2 ≤ 699 := by
            obtain ⟨x1, x2, -, -⟩ := fc_some i w1 w2 e
            unfold qF at x2
            split at x2
            · rename_i cx
              obtain ⟨vx, vx6, vx1, -⟩ := hc w1 (by omega) cx
              rw [vx1] at x2
              have x3 : p w1 + vx = w2 := Option.some.inj x2
              have := (hp w1 (by omega)).2
              omega
            · cases x2
          rw [fc_1 eq e] at ih
          show V _ _ _ _ _ _ _ _ [(6, .int (nI i)), (4, .int (nI w1)), (5, .int (nI w2)), (0, rf G 43), (1, .int (nI t)), (2, .int (nI u)), (3, .int (nI H))] [] _ _ _ _ _
          by_cases cl : p i + v < w2
          · rw [if_pos cl] at ih
            refine V_iload 12 0 rfl dX0_firstCheapest_10 rfl ?_
            refine V_iload_n 13 6 rfl rfl dX0_firstCheapest_12 rfl ?_
            refine V_icmp_ge 58 16 rfl dX0_firstCheapest_13 rfl (fun c13 => absurd c13 (nI_ge hi (by omega))) (fun c13 => ?_)
            refine V_iload_n 17 5 rfl rfl dX0_firstCheapest_16 rfl ?_
            refine V_iload 19 0 rfl dX0_firstCheapest_17 rfl ?_
            refine V_ishr 20 dX0_firstCheapest_19 rfl ?_
            refine V_iconst 21 (1) rfl dX0_firstCheapest_20 rfl ?_
            refine V_iand 22 dX0_firstCheapest_21 rfl ?_
            refine V_if_ne 52 25 rfl dX0_firstCheapest_22 rfl (fun c22 => absurd cb c22) (fun c22 => ?_)
            refine V_aload_n 26 3 rfl _ rfl rfl dX0_firstCheapest_25 rfl ?_
            refine V_iload_n 27 4 rfl rfl dX0_firstCheapest_26 rfl ?_
            refine V_iload_n 28 5 rfl rfl dX0_firstCheapest_27 rfl ?_
            refine V_iload 30 0 rfl dX0_firstCheapest_28 rfl ?_
            refine V_callV (K' := 0) (S' := 0) 33 43 0 3 [.int (nI t), .int (nI u), .int (nI i)] mkX0_priceWith lkX0_95 (by decide) rfl rfl (by decide) rfl (Nat.le_of_ble_eq_true rfl) (Nat.le_of_ble_eq_true rfl) (Nat.le_of_ble_eq_true rfl) (Nat.le_of_ble_eq_true rfl) rfl rfl dX0_firstCheapest_30 rfl (c_X0_priceWith hRK (by omega) (by omega) (by omega) cb p1 v2 ?_)
            refine Kq_i (k' := 0) (sl' := 0) rfl rfl ?_
            refine V_iload 35 2 rfl dX0_firstCheapest_33 rfl ?_
            refine V_icmp_ge 52 38 rfl dX0_firstCheapest_35 rfl (fun c35 => absurd c35 (nI_ge cl (by omega))) (fun c35 => ?_)
            refine V_aload_n 39 3 rfl _ rfl rfl dX0_firstCheapest_38 rfl ?_
            refine V_iload_n 40 4 rfl rfl dX0_firstCheapest_39 rfl ?_
            refine V_iload_n 41 5 rfl rfl dX0_firstCheapest_40 rfl ?_
            refine V_iload 43 0 rfl dX0_firstCheapest_41 rfl ?_
            refine V_callV (K' := 0) (S' := 0) 46 43 0 3 [.int (nI t), .int (nI u), .int (nI i)] mkX0_priceWith lkX0_95 (by decide) rfl rfl (by decide) rfl (Nat.le_of_ble_eq_true rfl) (Nat.le_of_ble_eq_true rfl) (Nat.le_of_ble_eq_true rfl) (Nat.le_of_ble_eq_true rfl) rfl rfl dX0_firstCheapest_43 rfl (c_X0_priceWith hRK (by omega) (by omega) (by omega) cb p1 v2 ?_)
            refine Kq_i (k' := 0) (sl' := 0) rfl rfl ?_
            refine V_istore 48 [(5, .int (nI (p i + v))), (6, .int (nI i)), (4, .int (nI w1)), (0, rf G 43), (1, .int (nI t)), (2, .int (nI u)), (3, .int (nI H))] (by decide) rfl dX0_firstCheapest_46 rfl ?_
            refine V_iload 50 1 rfl dX0_firstCheapest_48 rfl ?_
            refine V_istore 52 [(4, .int (nI i)), (5, .int (nI (p i + v))), (6, .int (nI i)), (0, rf G 43), (1, .int (nI t)), (2, .int (nI u)), (3, .int (nI H))] (by decide) rfl dX0_firstCheapest_50 rfl ?_
            refine V_iinc 55 2 rfl (nI (i + 1)) [(6, .int (nI (i + 1))), (4, .int (nI i)), (5, .int (nI (p i + v))), (0, rf G 43), (1, .int (nI t)), (2, .int (nI u)), (3, .int (nI H))] (nI_1 _) (by decide) rfl dX0_firstCheapest_52 rfl ?_
            refine V_goto 10 rfl dX0_firstCheapest_55 ?_
            exact V_lv [0, 1, 2, 3, 4, 5, 6] rfl ih
          · rw [if_neg cl] at ih
            refine V_iload 12 0 rfl dX0_firstCheapest_10 rfl ?_
            refine V_iload_n 13 6 rfl rfl dX0_firstCheapest_12 rfl ?_
            refine V_icmp_ge 58 16 rfl dX0_firstCheapest_13 rfl (fun c13 => absurd c13 (nI_ge hi (by omega))) (fun c13 => ?_)
            refine V_iload_n 17 5 rfl rfl dX0_firstCheapest_16 rfl ?_
            refine V_iload 19 0 rfl dX0_firstCheapest_17 rfl ?_
            refine V_ishr 20 dX0_firstCheapest_19 rfl ?_
            refine V_iconst 21 (1) rfl dX0_firstCheapest_20 rfl ?_
            refine V_iand 22 dX0_firstCheapest_21 rfl ?_
            refine V_if_ne 52 25 rfl dX0_firstCheapest_22 rfl (fun c22 => absurd cb c22) (fun c22 => ?_)
            refine V_aload_n 26 3 rfl _ rfl rfl dX0_firstCheapest_25 rfl ?_
            refine V_iload_n 27 4 rfl rfl dX0_firstCheapest_26 rfl ?_
            refine V_iload_n 28 5 rfl rfl dX0_firstCheapest_27 rfl ?_
            refine V_iload 30 0 rfl dX0_firstCheapest_28 rfl ?_
            refine V_callV (K' := 0) (S' := 0) 33 43 0 3 [.int (nI t), .int (nI u), .int (nI i)] mkX0_priceWith lkX0_95 (by decide) rfl rfl (by decide) rfl (Nat.le_of_ble_eq_true rfl) (Nat.le_of_ble_eq_true rfl) (Nat.le_of_ble_eq_true rfl) (Nat.le_of_ble_eq_true rfl) rfl rfl dX0_firstCheapest_30 rfl (c_X0_priceWith hRK (by omega) (by omega) (by omega) cb p1 v2 ?_)
            refine Kq_i (k' := 0) (sl' := 0) rfl rfl ?_
            refine V_iload 35 2 rfl dX0_firstCheapest_33 rfl ?_
            refine V_icmp_ge 52 38 rfl dX0_firstCheapest_35 rfl (fun c35 => ?_) (fun c35 => absurd (nI_le (show w2 ≤ p i + v by omega) (by omega)) c35)
            refine V_iinc 55 0 rfl (nI (i + 1)) [(6, .int (nI (i + 1))), (4, .int (nI w1)), (5, .int (nI w2)), (0, rf G 43), (1, .int (nI t)), (2, .int (nI u)), (3, .int (nI H))] (nI_1 _) (by decide) rfl dX0_firstCheapest_52 rfl ?_
            refine V_goto 10 rfl dX0_firstCheapest_55 ?_
            exact V_lv [0, 1, 2, 3, 4, 5, 6] rfl ih
      · refine V_iload 12 0 rfl dX0_firstCheapest_10 rfl ?_
        refine V_iload_n 13 6 rfl rfl dX0_firstCheapest_12 rfl ?_
        refine V_icmp_ge 58 16 rfl dX0_firstCheapest_13 rfl (fun c13 => absurd c13 (nI_ge hi (by omega))) (fun c13 => ?_)
        refine V_iload_n 17 5 rfl rfl dX0_firstCheapest_16 rfl ?_
        refine V_iload 19 0 rfl dX0_firstCheapest_17 rfl ?_
        refine V_ishr 20 dX0_firstCheapest_19 rfl ?_
        refine V_iconst 21 (1) rfl dX0_firstCheapest_20 rfl ?_
        refine V_iand 22 dX0_firstCheapest_21 rfl ?_
        refine V_if_ne 52 25 rfl dX0_firstCheapest_22 rfl (fun c22 => ?_) (fun c22 => absurd c22 cb)
        refine V_iinc 55 0 rfl (nI (i + 1)) [(6, .int (nI (i + 1))), (4, .int (oI ((fcF (qF c p u) i).map (·.1)))), (5, .int (lsF (fcF (qF c p u) i))), (0, rf G 43), (1, .int (nI t)), (2, .int (nI u)), (3, .int (nI H))] (nI_1 _) (by decide) rfl dX0_firstCheapest_52 rfl ?_
        refine V_goto 10 rfl dX0_firstCheapest_55 ?_
        rw [fc_n (show qF c p u i = none from if_neg cb)] at ih
        exact V_lv [0, 1, 2, 3, 4, 5, 6] rfl ih
  show V _ _ _ _ _ _ _ _ [(0, rf G 43), (1, .int (nI t)), (2, .int (nI u)), (3, .int (nI H))] [] _ _ _ _ _
  refine V_iconst 1 (-1) rfl dX0_firstCheapest_0 rfl ?_
  refine V_istore 3 [(4, .int (-1)), (0, rf G 43), (1, .int (nI t)), (2, .int (nI u)), (3, .int (nI H))] (by decide) rfl dX0_firstCheapest_1 rfl ?_
  refine V_ldc 5 (2147483647) rfl ckX0_98 dX0_firstCheapest_3 rfl ?_
  refine V_istore 7 [(5, .int 2147483647), (4, .int (-1)), (0, rf G 43), (1, .int (nI t)), (2, .int (nI u)), (3, .int (nI H))] (by decide) rfl dX0_firstCheapest_5 rfl ?_
  refine V_iconst 8 (0) rfl dX0_firstCheapest_7 rfl ?_
  refine V_istore 10 [(6, .int 0), (5, .int 2147483647), (4, .int (-1)), (0, rf G 43), (1, .int (nI t)), (2, .int (nI u)), (3, .int (nI H))] (by decide) rfl dX0_firstCheapest_8 rfl ?_
  exact V_lv [0, 2, 1, 3, 4, 5, 6] rfl (L 0 (Nat.zero_le _))
def PrC (I : FI) (K : CO) (f : DV → Int32) (D : DV) (g : Nat) : Prop := ∀ m, m < cM K → D (30 + m) = 1 → ∀ h, h < cH K → I 46 (liv D m * 8 + h) = nI (pA K f D g m h)
set_option maxHeartbeats 8000000 in
theorem c_X0_priceHats {G : Gx} {d : Nat} {I : FI} {R : FR} {J : FJ} {Q : Po} {c l b : Nat} {K : CO} {f : DV → Int32} {D : DV} (hX : RC I R c l b K f D) {g : Nat} (hg : g < cG K) (hq : ∀ I', (∀ a, a ≠ 16 → a ≠ l + 4 → a ≠ 46 → I' a = I a) → PrC I' K f D g → Q (.inl none) 103 I' R J) : Cc G mX0_priceHats (d + 10) 0 0 [rf G 43, rf G 3, rf G 18, .int (nI g)] 103 I R J Q := by
  have hXc := hX
  obtain ⟨hRS, hc, hl, hb, hC, hW, hD, hI, hL⟩ := hXc
  have hRK := hRS.K
  have hR3c : R 3 0 = some c := hRS 3 0 (by decide)
  have hR3l : R 3 1 = some l := hRS 3 1 (by decide)
  have hR32 : R 3 2 = some 16 := hRS 3 2 (by decide)
  have hR33 : R 3 3 = some 17 := hRS 3 3 (by decide)
  have h8 := hW.1
  have hg6 := hW.2.1
  have h6 := hW.2.2.1
  have hWD := hI.1
  have hFl := hI.1.1
  have frq : ∀ I', (∀ a, a ≠ 16 → a ≠ l + 4 → a ≠ 46 → I' a = I a) → FrQ I I' := fun I' h a h1 h2 h3 h4 => h a (by omega) (by omega) (by omega)
  have L : ∀ i, i ≤ cM K → ∀ I1, (∀ a, a ≠ 16 → a ≠ l + 4 → a ≠ 46 → I1 a = I a) → (∀ m, m < i → D (30 + m) = 1 → ∀ h, h < cH K → I1 46 (liv D m * 8 + h) = nI (pA K f D g m h)) → V G mX0_priceHats (d + 10) 0 0 0 0 6 [(5, .int (nI i)), (4, .int (nI (liv D i))), (0, rf G 43), (1, rf G 3), (2, rf G 18), (3, .int (nI g))] [] 103 I1 R J Q := by
    refine loopd (cM K) (fun I1 hF1 hP1 => ?_) (fun i hi ih I1 hF1 hP1 => ?_)
    · have hX1 := hX.fr (frq I1 hF1)
      refine V_iload 8 0 rfl dX0_priceHats_6 rfl ?_
      refine V_aload_n 9 3 rfl _ rfl rfl dX0_priceHats_8 rfl ?_
      refine V_getR 12 3 7 0 c hR3c flX0_37 rfl rfl rfl (by decide) dX0_priceHats_9 rfl ?_
      refine V_getI 15 c 2 8 (nI (cM K)) hX1.2.2.2.2.1.2.2.1 flX0_84 rfl (ly_c hc).1 rfl (by omega) dX0_priceHats_12 rfl ?_
      refine V_icmp_ge 87 18 rfl dX0_priceHats_15 rfl (fun c15 => ?_) (fun c15 => absurd (Int32.le_refl _) c15)
      refine V_ret_v rfl (Nat.le_of_ble_eq_true rfl) (fun h => absurd h (by decide)) (Nat.le_of_ble_eq_true rfl) (hq I1 hF1 hP1) dX0_priceHats_87
    · have hX1 := hX.fr (frq I1 hF1)
      have el : liv D (i + 1) = liv D i + (if D (30 + i) = 1 then 1 else 0) := rfl
      have ll := liv_le (D := D) i
      have LL : D (30 + i) = 1 → ∀ h, h ≤ cH K → ∀ I2, (∀ a, a ≠ 16 → a ≠ l + 4 → a ≠ 46 → I2 a = I a) → (∀ m, m < i → D (30 + m) = 1 → ∀ h, h < cH K → I2 46 (liv D m * 8 + h) = nI (pA K f D g m h)) → (∀ j, j < h → I2 46 (liv D i * 8 + j) = nI (pA K f D g i j)) → V G mX0_priceHats (d + 10) 0 0 0 0 33 [(6, .int (nI h)), (5, .int (nI i)), (4, .int (nI (liv D i))), (0, rf G 43), (1, rf G 3), (2, rf G 18), (3, .int (nI g))] [] 103 I2 R J Q := by
        intro cl
        rw [if_pos cl] at el
        refine loopd (cH K) (fun I2 hF2 hP2 hQ2 => ?_) (fun h hh ih2 I2 hF2 hP2 hQ2 => ?_)
        · have hX2 := hX.fr (frq I2 hF2)
          refine V_iload 35 0 rfl dX0_priceHats_33 rfl ?_
          refine V_aload_n 36 4 rfl _ rfl rfl dX0_priceHats_35 rfl ?_
          refine V_getR 39 3 7 0 c hR3c flX0_37 rfl rfl rfl (by decide) dX0_priceHats_36 rfl ?_
          refine V_getI 42 c 2 6 (nI (cH K)) hX2.2.2.2.2.1.1 flX0_43 rfl (ly_c hc).1 rfl (by omega) dX0_priceHats_39 rfl ?_
          refine V_icmp_ge 78 45 rfl dX0_priceHats_42 rfl (fun c42 => ?_) (fun c42 => absurd (Int32.le_refl _) c42)
          refine V_iinc 81 2 rfl (nI (liv D i + 1)) [(4, .int (nI (liv D i + 1))), (6, .int (nI (cH K))), (5, .int (nI i)), (0, rf G 43), (1, rf G 3), (2, rf G 18), (3, .int (nI g))] (nI_1 _) (by decide) rfl dX0_priceHats_78 rfl ?_
          refine V_iinc 84 2 rfl (nI (i + 1)) [(5, .int (nI (i + 1))), (4, .int (nI (liv D i + 1))), (6, .int (nI (cH K))), (0, rf G 43), (1, rf G 3), (2, rf G 18), (3, .int (nI g))] (nI_1 _) (by decide) rfl dX0_priceHats_81 rfl ?_
          refine V_goto 6 rfl dX0_priceHats_84 ?_
          rw [el] at ih
          refine V_lv [0, 1, 3, 4, 5, 6] rfl (ih I2 hF2 (fun m hm c h hh => ?_))
          by_cases e : m = i
          · subst e; exact hQ2 h hh
          · exact hP2 m (by omega) c h hh
        · have hX2 := hX.fr (frq I2 hF2)
          refine V_iload 35 0 rfl dX0_priceHats_33 rfl ?_
          refine V_aload_n 36 4 rfl _ rfl rfl dX0_priceHats_35 rfl ?_
          refine V_getR 39 3 7 0 c hR3c flX0_37 rfl rfl rfl (by decide) dX0_priceHats_36 rfl ?_
          refine V_getI 42 c 2 6 (nI (cH K)) hX2.2.2.2.2.1.1 flX0_43 rfl (ly_c hc).1 rfl (by omega) dX0_priceHats_39 rfl ?_
          refine V_icmp_ge 78 45 rfl dX0_priceHats_42 rfl (fun c42 => absurd c42 (nI_ge hh (by omega))) (fun c42 => ?_)
          refine V_aload_n 46 4 rfl _ rfl rfl dX0_priceHats_45 rfl ?_
          refine V_aload_n 47 5 rfl _ rfl rfl dX0_priceHats_46 rfl ?_
          refine V_iload 49 1 rfl dX0_priceHats_47 rfl ?_
          refine V_iload 51 0 rfl dX0_priceHats_49 rfl ?_
          refine V_iload_n 52 6 rfl rfl dX0_priceHats_51 rfl ?_
          refine V_callV (K' := 0) (S' := 0) 55 3 7 4 [rf G 18, .int (nI i), .int (nI h), .int (nI g)] mkX7_standAlone lkX0_54 (by decide) rfl rfl (by decide) rfl (Nat.le_of_ble_eq_true rfl) (Nat.le_of_ble_eq_true rfl) (Nat.le_of_ble_eq_true rfl) (Nat.le_of_ble_eq_true rfl) rfl rfl dX0_priceHats_52 rfl (c_X7_sa hX2 hi hh hg (fun I3 hF3 hA3 => ?_))
          refine Kq_v (k' := 0) (sl' := 0) rfl rfl ?_
          refine V_aload_n 56 3 rfl _ rfl rfl dX0_priceHats_55 rfl ?_
          refine V_getR 59 43 0 2 46 (hRK 43 2 (by decide) (by decide) (by decide)) flX0_18 rfl rfl rfl (by decide) dX0_priceHats_56 rfl ?_
          refine V_iload 61 2 rfl dX0_priceHats_59 rfl ?_
          refine V_bipush 63 (8) rfl dX0_priceHats_61 rfl ?_
          refine V_imul 64 dX0_priceHats_63 rfl ?_
          refine V_rw (pk_mul (liv D i) 8) ?_
          refine V_iload 66 0 rfl dX0_priceHats_64 rfl ?_
          refine V_iadd 67 dX0_priceHats_66 rfl ?_
          refine V_rw (nI_add ((liv D i) * 8) h) ?_
          refine V_aload_n 68 4 rfl _ rfl rfl dX0_priceHats_67 rfl ?_
          refine V_callV (K' := 0) (S' := 0) 71 3 7 0 [] mkX7_nextSea lkX0_58 (by decide) rfl rfl (by decide) rfl (Nat.le_of_ble_eq_true rfl) (Nat.le_of_ble_eq_true rfl) (Nat.le_of_ble_eq_true rfl) (Nat.le_of_ble_eq_true rfl) rfl rfl dX0_priceHats_68 rfl (c_X7_nx (hX2.fr (FrQ.s (fun a q1 _ => hF3 a q1) hl)) hA3 (fun I4 hF4 hA4 => ?_))
          refine Kq_i (k' := 0) (sl' := 0) rfl rfl ?_
          refine V_iastN 72 46 48 (((liv D i) * 8) + h) (by omega) (by decide) rfl (by decide) dX0_priceHats_71 rfl ?_
          refine V_iinc 75 0 rfl (nI (h + 1)) [(6, .int (nI (h + 1))), (5, .int (nI i)), (4, .int (nI (liv D i))), (0, rf G 43), (1, rf G 3), (2, rf G 18), (3, .int (nI g))] (nI_1 _) (by decide) rfl dX0_priceHats_72 rfl ?_
          refine V_goto 33 rfl dX0_priceHats_75 ?_
          have e46 : ∀ j, I4 46 j = I2 46 j := fun j => by rw [hF4 46 (by decide) (by omega), hF3 46 (by decide)]
          refine V_lv [0, 1, 2, 3, 4, 5, 6] rfl (ih2 _ (fun a q1 q2 q3 => ?_) (fun m hm c h2 hh2 => ?_) (fun j hj => ?_))
          · rw [up2_n _ _ _ q3, hF4 a q1 q2, hF3 a q1]; exact hF2 a q1 q2 q3
          · have lm := liv_mono (D := D) (i - (m + 1)) (m + 1)
            rw [show m + 1 + (i - (m + 1)) = i by omega, show liv D (m + 1) = liv D m + (if D (30 + m) = 1 then 1 else 0) from rfl, if_pos c] at lm
            rw [up2_s, upd_n (by omega), e46]; exact hP2 m hm c h2 hh2
          · rw [up2_s]
            by_cases e : j = h
            · subst e; rw [upd_s]; exact (pA_ok hL.R D g i j).1
            · rw [upd_n (by omega), e46]; exact hQ2 j (by omega)
      refine V_iload 8 0 rfl dX0_priceHats_6 rfl ?_
      refine V_aload_n 9 3 rfl _ rfl rfl dX0_priceHats_8 rfl ?_
      refine V_getR 12 3 7 0 c hR3c flX0_37 rfl rfl rfl (by decide) dX0_priceHats_9 rfl ?_
      refine V_getI 15 c 2 8 (nI (cM K)) hX1.2.2.2.2.1.2.2.1 flX0_84 rfl (ly_c hc).1 rfl (by omega) dX0_priceHats_12 rfl ?_
      refine V_icmp_ge 87 18 rfl dX0_priceHats_15 rfl (fun c15 => absurd c15 (nI_ge hi (by omega))) (fun c15 => ?_)
      refine V_aload_n 19 4 rfl _ rfl rfl dX0_priceHats_18 rfl ?_
      refine V_iload 21 0 rfl dX0_priceHats_19 rfl ?_
      refine V_callV (K' := 0) (S' := 0) 24 18 3 1 [.int (nI i)] mkX3_lives lkX0_87 (by decide) rfl rfl (by decide) rfl (Nat.le_of_ble_eq_true rfl) (Nat.le_of_ble_eq_true rfl) (Nat.le_of_ble_eq_true rfl) (Nat.le_of_ble_eq_true rfl) rfl rfl dX0_priceHats_21 rfl (c_X3_lives_18 hRK hX1.2.2.2.2.2.2.1 hFl (by omega) (fun e1 => ?_) (fun e1 => ?_))
      · refine Kq_i (k' := 0) (sl' := 0) rfl rfl ?_
        refine V_if_ne 30 27 rfl dX0_priceHats_24 rfl (fun c24 => ?_) (fun c24 => absurd c24 (by decide))
        refine V_iconst 31 (0) rfl dX0_priceHats_30 rfl ?_
        refine V_istore 33 [(6, .int 0), (5, .int (nI i)), (4, .int (nI (liv D i))), (0, rf G 43), (1, rf G 3), (2, rf G 18), (3, .int (nI g))] (by decide) rfl dX0_priceHats_31 rfl ?_
        exact V_lv [0, 1, 2, 3, 4, 5, 6] rfl (LL e1 0 (Nat.zero_le _) I1 hF1 hP1 (fun j hj => absurd hj (Nat.not_lt_zero _)))
      · refine Kq_i (k' := 0) (sl' := 0) rfl rfl ?_
        refine V_if_ne 30 27 rfl dX0_priceHats_24 rfl (fun c24 => absurd c24 (by decide)) (fun c24 => ?_)
        refine V_goto 81 rfl dX0_priceHats_27 ?_
        refine V_iinc 84 0 rfl (nI (i + 1)) [(5, .int (nI (i + 1))), (4, .int (nI (liv D i))), (0, rf G 43), (1, rf G 3), (2, rf G 18), (3, .int (nI g))] (nI_1 _) (by decide) rfl dX0_priceHats_81 rfl ?_
        refine V_goto 6 rfl dX0_priceHats_84 ?_
        rw [if_neg (show ¬ D (30 + i) = 1 from by rw [e1]; decide), Nat.add_zero] at el
        rw [el] at ih
        refine V_lv [0, 1, 2, 3, 4, 5] rfl (ih I1 hF1 (fun m hm c h hh => ?_))
        by_cases e : m = i
        · subst e; rw [e1] at c; exact absurd c (by decide)
        · exact hP1 m (by omega) c h hh
  show V _ _ _ _ _ _ _ _ [(0, rf G 43), (1, rf G 3), (2, rf G 18), (3, .int (nI g))] [] _ _ _ _ _
  refine V_iconst 1 (0) rfl dX0_priceHats_0 rfl ?_
  refine V_istore 3 [(4, .int 0), (0, rf G 43), (1, rf G 3), (2, rf G 18), (3, .int (nI g))] (by decide) rfl dX0_priceHats_1 rfl ?_
  refine V_iconst 4 (0) rfl dX0_priceHats_3 rfl ?_
  refine V_istore 6 [(5, .int 0), (4, .int 0), (0, rf G 43), (1, rf G 3), (2, rf G 18), (3, .int (nI g))] (by decide) rfl dX0_priceHats_4 rfl ?_
  exact V_lv [0, 1, 2, 3, 4, 5] rfl (L 0 (Nat.zero_le _) I (fun _ _ _ _ => rfl) (fun m hm => absurd hm (Nat.not_lt_zero _)))
def ChC (I : FI) (K : CO) (f : DV → Int32) (D : DV) (g u : Nat) : Prop := ∀ s, u ≤ s → s < 2 ^ cH K → ∀ m, m ≤ cM K → liv D m = pc8 s → ∃ v, v ≤ 600 ∧ LO D (pA K f D g) (cM K) (cH K) (cM K - m) s = some v ∧ I 47 s = nI v
theorem ChC.cg {I I' : FI} {K : CO} {f : DV → Int32} {D : DV} {g u : Nat} (h : ChC I K f D g u) (e : I' 47 = I 47) : ChC I' K f D g u := fun s a b m c d => by rw [e]; exact h s a b m c d
theorem LO_600 {K : CO} {f : DV → Int32} {D : DV} {g m s v : Nat} (hf : fR f) (h6 : cM K ≤ 6) (e : LO D (pA K f D g) (cM K) (cH K) (cM K - m) s = some v) : v ≤ 600 := by
  have := LO_le (fun m h => (pA_ok (K := K) hf D g m h).2) _ _ _ e
  omega
set_option maxHeartbeats 8000000 in
theorem c_X0_findCheapest {G : Gx} {d : Nat} {I : FI} {R : FR} {J : FJ} {Q : Po} (hRK : RK R) {K : CO} {f : DV → Int32} {D : DV} {g : Nat} (hW : WK K) (hf : fR f) (hm : liv D (cM K) ≤ cH K) (hP : PrC I K f D g) (hq : ∀ I', (∀ a, a ≠ 47 → I' a = I a) → ChC I' K f D g 0 → Q (.inl none) 103 I' R J) : Cc G mX0_findCheapest (d + 3) 0 0 [rf G 43, .int (nI (cH K)), .int (nI (liv D (cM K)))] 103 I R J Q := by
  have h8 := hW.1
  have h6 := hW.2.2.1
  have p8 := pow8 h8
  have L : ∀ r, r ≤ 2 ^ cH K → ∀ x I1, x = nI r - 1 → (∀ a, a ≠ 47 → I1 a = I a) → ChC I1 K f D g r → V G mX0_findCheapest (d + 3) 0 0 0 0 6 [(3, .int x), (0, rf G 43), (1, .int (nI (cH K))), (2, .int (nI (liv D (cM K))))] [] 103 I1 R J Q := by
    intro r
    induction r with
    | zero =>
      intro _ x I1 hx hF1 hC1
      have hx0 : x < 0 := by rw [hx]; decide
      refine V_iload_n 7 0 rfl rfl dX0_findCheapest_6 rfl ?_
      refine V_if_lt 70 10 rfl dX0_findCheapest_7 rfl (fun c7 => ?_) (fun c7 => absurd hx0 c7)
      refine V_ret_v rfl (Nat.le_of_ble_eq_true rfl) (fun h => absurd h (by decide)) (Nat.le_of_ble_eq_true rfl) (hq I1 hF1 hC1) dX0_findCheapest_70
    | succ u ih =>
      intro hr x I1 hx hF1 hC1
      have hx1 : x = nI u := by rw [hx]; exact nI_sub (a := u + 1) (b := 1) (by omega)
      subst hx1
      have hu : u < 2 ^ cH K := by omega
      have hbc := bc8 u (by omega)
      have ll := lt8 (cH K) (by omega) u (by omega) hu
      obtain ⟨I2, eI2⟩ : ∃ I2, I2 = up2 I1 47 u 0 := ⟨_, rfl⟩
      have hF2 : ∀ a, a ≠ 47 → I2 a = I a := fun a q => by rw [eI2, up2_n _ _ _ q]; exact hF1 a q
      have hC2 : ∀ s, u + 1 ≤ s → I2 47 s = I1 47 s := fun s q => by rw [eI2, up2_s]; exact upd_n (by omega)
      have ed : nI u + Int32.ofInt (-1) = nI u - 1 := by rw [Int32.sub_eq_add_neg]; rfl
      have hmono : ∀ m, m ≤ cM K → liv D m ≤ liv D (cM K) := fun m q => by have := liv_mono (D := D) (cM K - m) m; rw [show m + (cM K - m) = cM K by omega] at this; exact this
      by_cases ct : pc8 u < liv D (cM K)
      · obtain ⟨m', y1, y2, y3⟩ := liv_at (cM K) ct
        have hpp : ∀ h, h < cH K → I2 46 (pc8 u * 8 + h) = nI (pA K f D g m' h) ∧ pA K f D g m' h ≤ 99 := fun h hh => ⟨by rw [hF2 46 (by decide), ← y3]; exact hP m' y1 y2 h hh, (pA_ok hf D g m' h).2⟩
        have hcc : ∀ h, h < cH K → (nI u >>> (nI h &&& 31)) &&& 1 = 0 → ∃ v, v ≤ 600 ∧ LO D (pA K f D g) (cM K) (cH K) (cM K - (m' + 1)) (u + 2 ^ h) = some v ∧ I2 47 (u + 2 ^ h) = nI v := by
          intro h hh cb
          have o8 := or8 u (by omega) h (by omega) cb
          have pw := Nat.two_pow_pos h
          obtain ⟨v, v1, v2, v3⟩ := hC1 (u + 2 ^ h) (by omega) (ll.2.2 h hh cb) (m' + 1) (by omega) (by rw [o8.2.2, liv, if_pos y2, y3])
          exact ⟨v, v1, v2, by rw [hC2 _ (by omega)]; exact v3⟩
        cases ef : fcF (qF (LO D (pA K f D g) (cM K) (cH K) (cM K - (m' + 1))) (pA K f D g m') u) (cH K) with
        | none =>
          refine absurd (fun h hh cb => ?_) (ll.2.1 (by omega))
          obtain ⟨v, -, v2, -⟩ := hcc h hh cb
          have := (fc_none (cH K)).mp ef h hh
          unfold qF at this
          rw [if_pos cb, v2] at this
          cases this
        | some w =>
          obtain ⟨w1, w2⟩ := w
          obtain ⟨x1, x2, -, -⟩ := fc_some (cH K) w1 w2 ef
          have cb : (nI u >>> (nI w1 &&& 31)) &&& 1 = 0 := by
            unfold qF at x2
            split at x2
            · assumption
            · cases x2
          obtain ⟨v, v6, v2, v3⟩ := hcc w1 x1 cb
          have ev : pA K f D g m' w1 + v = w2 := by unfold qF at x2; rw [if_pos cb, v2] at x2; exact Option.some.inj x2
          have pcl : pc8 u ≤ 5 := by have := liv_le (D := D) m'; omega
          refine V_iload_n 7 0 rfl rfl dX0_findCheapest_6 rfl ?_
          refine V_if_lt 70 10 rfl dX0_findCheapest_7 rfl (fun c7 => absurd c7 (Int32.not_lt.mpr (nI_le (a := 0) (Nat.zero_le u) (by omega)))) (fun c7 => ?_)
          refine V_iload_n 11 0 rfl rfl dX0_findCheapest_10 rfl ?_
          refine V_callS (K' := 0) (S' := 0) 14 1 [.int (nI u)] mkJ6_bitCount_0f7a4 lkX0_71 rfl (Nat.le_of_ble_eq_true rfl) (Nat.le_of_ble_eq_true rfl) (Nat.le_of_ble_eq_true rfl) (Nat.le_of_ble_eq_true rfl) rfl rfl dX0_findCheapest_11 rfl (c_J6_bitCount ?_)
          rw [hbc]
          refine Kq_i (k' := 0) (sl' := 0) rfl rfl ?_
          refine V_istore 16 [(4, .int (nI (pc8 u))), (3, .int (nI u)), (0, rf G 43), (1, .int (nI (cH K))), (2, .int (nI (liv D (cM K))))] (by decide) rfl dX0_findCheapest_14 rfl ?_
          refine V_aload_n 17 2 rfl _ rfl rfl dX0_findCheapest_16 rfl ?_
          refine V_getR 20 43 0 3 47 (hRK 43 3 (by decide) (by decide) (by decide)) flX0_21 rfl rfl rfl (by decide) dX0_findCheapest_17 rfl ?_
          refine V_iload_n 21 1 rfl rfl dX0_findCheapest_20 rfl ?_
          refine V_iconst 22 (0) rfl dX0_findCheapest_21 rfl ?_
          refine V_iastN 23 47 256 u (by omega) (by decide) rfl (by decide) dX0_findCheapest_22 rfl ?_
          rw [← eI2]
          refine V_iload 25 0 rfl dX0_findCheapest_23 rfl ?_
          refine V_iload_n 26 4 rfl rfl dX0_findCheapest_25 rfl ?_
          refine V_icmp_ge 64 29 rfl dX0_findCheapest_26 rfl (fun c26 => absurd c26 (nI_ge ct (by omega))) (fun c26 => ?_)
          refine V_aload_n 30 2 rfl _ rfl rfl dX0_findCheapest_29 rfl ?_
          refine V_iload 32 0 rfl dX0_findCheapest_30 rfl ?_
          refine V_iload_n 33 1 rfl rfl dX0_findCheapest_32 rfl ?_
          refine V_iload_n 34 3 rfl rfl dX0_findCheapest_33 rfl ?_
          refine V_callV (K' := 0) (S' := 0) 37 43 0 3 [.int (nI (pc8 u)), .int (nI u), .int (nI (cH K))] mkX0_firstCheapest lkX0_91 (by decide) rfl rfl (by decide) rfl (Nat.le_of_ble_eq_true rfl) (Nat.le_of_ble_eq_true rfl) (Nat.le_of_ble_eq_true rfl) (Nat.le_of_ble_eq_true rfl) rfl rfl dX0_findCheapest_34 rfl (c_X0_firstCheapest (c := LO D (pA K f D g) (cM K) (cH K) (cM K - (m' + 1))) (p := pA K f D g m') hRK pcl h8 hu hpp hcc ?_)
          rw [ef]
          refine Kq_i (k' := 0) (sl' := 0) rfl rfl ?_
          refine V_istore 39 [(5, .int (nI w1)), (4, .int (nI (pc8 u))), (3, .int (nI u)), (0, rf G 43), (1, .int (nI (cH K))), (2, .int (nI (liv D (cM K))))] (by decide) rfl dX0_findCheapest_37 rfl ?_
          refine V_aload_n 40 3 rfl _ rfl rfl dX0_findCheapest_39 rfl ?_
          refine V_getR 43 43 0 3 47 (hRK 43 3 (by decide) (by decide) (by decide)) flX0_21 rfl rfl rfl (by decide) dX0_findCheapest_40 rfl ?_
          refine V_iload_n 44 2 rfl rfl dX0_findCheapest_43 rfl ?_
          refine V_iload 46 0 rfl dX0_findCheapest_44 rfl ?_
          refine V_iconst 47 (-1) rfl dX0_findCheapest_46 rfl ?_
          refine V_icmp_ne 54 50 rfl dX0_findCheapest_47 rfl (fun c47 => ?_) (fun c47 => absurd c47 (nI_ne (by omega)))
          refine V_aload_n 55 3 rfl _ rfl rfl dX0_findCheapest_54 rfl ?_
          refine V_iload 57 1 rfl dX0_findCheapest_55 rfl ?_
          refine V_iload_n 58 2 rfl rfl dX0_findCheapest_57 rfl ?_
          refine V_iload 60 0 rfl dX0_findCheapest_58 rfl ?_
          refine V_callV (K' := 0) (S' := 0) 63 43 0 3 [.int (nI (pc8 u)), .int (nI u), .int (nI w1)] mkX0_priceWith lkX0_95 (by decide) rfl rfl (by decide) rfl (Nat.le_of_ble_eq_true rfl) (Nat.le_of_ble_eq_true rfl) (Nat.le_of_ble_eq_true rfl) (Nat.le_of_ble_eq_true rfl) rfl rfl dX0_findCheapest_60 rfl (c_X0_priceWith hRK (by omega) (by omega) (by omega) cb (hpp w1 x1).1 v3 ?_)
          rw [ev]
          refine Kq_i (k' := 0) (sl' := 0) rfl rfl ?_
          refine V_iastN 64 47 256 u (by omega) (by decide) rfl (by decide) dX0_findCheapest_63 rfl ?_
          refine V_iinc 67 2 rfl (nI u - 1) [(3, .int (nI u - 1)), (5, .int (nI w1)), (4, .int (nI (pc8 u))), (0, rf G 43), (1, .int (nI (cH K))), (2, .int (nI (liv D (cM K))))] ed (by decide) rfl dX0_findCheapest_64 rfl ?_
          refine V_goto 6 rfl dX0_findCheapest_67 ?_
          refine V_lv [0, 3, 4, 5] rfl (ih (by omega) _ _ rfl (fun a q => by rw [up2_n _ _ _ q]; exact hF2 a q) (fun s q1 q2 m q3 q4 => ?_))
          by_cases e : s = u
          · subst e
            have eL : LO D (pA K f D g) (cM K) (cH K) (cM K - m) s = some w2 := by
              by_cases cm : m ≤ m'
              · rw [LO_skip (m' - m) m (by omega) (by rw [show m + (m' - m) = m' by omega]; omega), show m + (m' - m) = m' by omega, LO_m y1, if_pos y2, ef]; rfl
              · exfalso
                have z1 := liv_mono (D := D) (m - (m' + 1)) (m' + 1)
                rw [show m' + 1 + (m - (m' + 1)) = m by omega, liv, if_pos y2] at z1
                omega
            exact ⟨w2, LO_600 hf h6 eL, eL, by rw [up2_s]; exact upd_s⟩
          · obtain ⟨v, z1, z2, z3⟩ := hC1 s (by omega) q2 m q3 q4
            exact ⟨v, z1, z2, by rw [up2_s, upd_n e, hC2 s (by omega)]; exact z3⟩
      · have pc8l := ll.1
        refine V_iload_n 7 0 rfl rfl dX0_findCheapest_6 rfl ?_
        refine V_if_lt 70 10 rfl dX0_findCheapest_7 rfl (fun c7 => absurd c7 (Int32.not_lt.mpr (nI_le (a := 0) (Nat.zero_le u) (by omega)))) (fun c7 => ?_)
        refine V_iload_n 11 0 rfl rfl dX0_findCheapest_10 rfl ?_
        refine V_callS (K' := 0) (S' := 0) 14 1 [.int (nI u)] mkJ6_bitCount_0f7a4 lkX0_71 rfl (Nat.le_of_ble_eq_true rfl) (Nat.le_of_ble_eq_true rfl) (Nat.le_of_ble_eq_true rfl) (Nat.le_of_ble_eq_true rfl) rfl rfl dX0_findCheapest_11 rfl (c_J6_bitCount ?_)
        rw [hbc]
        refine Kq_i (k' := 0) (sl' := 0) rfl rfl ?_
        refine V_istore 16 [(4, .int (nI (pc8 u))), (3, .int (nI u)), (0, rf G 43), (1, .int (nI (cH K))), (2, .int (nI (liv D (cM K))))] (by decide) rfl dX0_findCheapest_14 rfl ?_
        refine V_aload_n 17 2 rfl _ rfl rfl dX0_findCheapest_16 rfl ?_
        refine V_getR 20 43 0 3 47 (hRK 43 3 (by decide) (by decide) (by decide)) flX0_21 rfl rfl rfl (by decide) dX0_findCheapest_17 rfl ?_
        refine V_iload_n 21 1 rfl rfl dX0_findCheapest_20 rfl ?_
        refine V_iconst 22 (0) rfl dX0_findCheapest_21 rfl ?_
        refine V_iastN 23 47 256 u (by omega) (by decide) rfl (by decide) dX0_findCheapest_22 rfl ?_
        rw [← eI2]
        refine V_iload 25 0 rfl dX0_findCheapest_23 rfl ?_
        refine V_iload_n 26 4 rfl rfl dX0_findCheapest_25 rfl ?_
        refine V_icmp_ge 64 29 rfl dX0_findCheapest_26 rfl (fun c26 => ?_) (fun c26 => absurd (nI_le (show liv D (cM K) ≤ pc8 u by omega) (by omega)) c26)
        refine V_iinc 67 1 rfl (nI u - 1) [(3, .int (nI u - 1)), (4, .int (nI (pc8 u))), (0, rf G 43), (1, .int (nI (cH K))), (2, .int (nI (liv D (cM K))))] ed (by decide) rfl dX0_findCheapest_64 rfl ?_
        refine V_goto 6 rfl dX0_findCheapest_67 ?_
        refine V_lv [0, 2, 3, 4] rfl (ih (by omega) _ _ rfl hF2 (fun s q1 q2 m q3 q4 => ?_))
        by_cases e : s = u
        · subst e
          have z := hmono m q3
          exact ⟨0, by decide, LO_end q3 (by omega), by rw [eI2, up2_s]; exact upd_s⟩
        · obtain ⟨v, z1, z2, z3⟩ := hC1 s (by omega) q2 m q3 q4
          exact ⟨v, z1, z2, by rw [hC2 s (by omega)]; exact z3⟩
  show V _ _ _ _ _ _ _ _ [(0, rf G 43), (1, .int (nI (cH K))), (2, .int (nI (liv D (cM K))))] [] _ _ _ _ _
  refine V_iconst 1 (1) rfl dX0_findCheapest_0 rfl ?_
  refine V_iload_n 2 1 rfl rfl dX0_findCheapest_1 rfl ?_
  refine V_ishl 3 dX0_findCheapest_2 rfl ?_
  refine V_rw (show _ = nI (2 ^ cH K) from sh8 (cH K) (by omega)) ?_
  refine V_iconst 4 (1) rfl dX0_findCheapest_3 rfl ?_
  refine V_isub 5 dX0_findCheapest_4 rfl ?_
  refine V_istore_n 6 [(3, .int ((nI (2 ^ cH K)) - 1)), (0, rf G 43), (1, .int (nI (cH K))), (2, .int (nI (liv D (cM K))))] (by decide) rfl rfl dX0_findCheapest_5 rfl ?_
  exact V_lv [0, 1, 2, 3] rfl (L (2 ^ cH K) (Nat.le_refl _) _ I rfl (fun _ _ => rfl) (fun s q1 q2 => absurd q2 (by omega)))
