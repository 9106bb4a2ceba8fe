/-! ===== BOOK's text ===== -/
def upB (bk : Nat → Option Nat) (h v : Nat) : Nat → Option Nat := fun k => if k = h then some v else bk k
def bkE (t : Nat → Nat) (z : Nat) (bk : Nat → Option Nat) (n p : Nat) : FT ⊕ ((Nat × Nat) × Nat) := bd (pNum t z 0 24 p) (fun x => if ¬ bk x.1 = none then .inl (2, p) else if 8 ≤ n then .inl (3, p) else bd (pNum t z 0 100 x.2) (fun y => bd (pSig t z 59 y.2) (fun q => .inr ((x.1, y.1), q))))
def bkL (t : Nat → Nat) (z : Nat) : Nat → Nat → (Nat → Option Nat) → Nat → FT ⊕ (Nat × (Nat → Option Nat))
  | 0, _, _, p => .inl (3, p)
  | g + 1, n, bk, p => if z ≤ p then .inr (n, bk) else bd (bkE t z bk n p) (fun x => bkL t z g (n + 1) (upB bk x.1.1 x.1.2) x.2)
def bkF (t : Nat → Nat) (z : Nat) : FT ⊕ (Nat × (Nat → Option Nat)) := bkL t z 10 0 (fun _ => none) (sk t z 0)
def FrB (I I' : FI) (b : Nat) : Prop := ∀ a, (a < b ∨ b + 2 < a) → I' a = I a
theorem FrB.rf {I : FI} {b : Nat} : FrB I I b := fun _ _ => rfl
theorem FrB.tr {I I1 I2 : FI} {b : Nat} (h : FrB I I1 b) (h2 : FrB I1 I2 b) : FrB I I2 b := fun a ha => (h2 a ha).trans (h a ha)
theorem FrB.T {I I' : FI} {b : Nat} {t : Nat → Nat} {z : Nat} (h : FrB I I' b) (hb : b = 63 ∨ b = 66) (hT : TxC I t z) : TxC I' t z := hT.fr (h 1 (by omega)) (h 2 (by omega))
theorem BookC_add {I : FI} {b n : Nat} {bk : Nat → Option Nat} {h v : Nat} (hB : BookC I b n bk) (hn : n < 8) (hh : h < 24) (hv : v ≤ 99) (h0 : bk h = none) : BookC (up2 (up2 (up2 I (b + 1) n (nI h)) (b + 2) n (nI v)) b 2 (nI (n + 1))) b (n + 1) (upB bk h v) := by
  obtain ⟨h1, h2, hr, sr, h3, h4⟩ := hB
  refine ⟨by omega, by rw [up2_s]; exact upd_s, fun i => if i = n then h else hr i, fun i => if i = n then v else sr i, fun i hi => ?_, fun k u e => ?_⟩
  · rw [up2_n _ _ _ (show b + 1 ≠ b by omega), up2_n _ _ _ (show b + 1 ≠ b + 2 by omega), up2_s, up2_n _ _ _ (show b + 2 ≠ b by omega), up2_s, up2_n _ _ _ (show b + 2 ≠ b + 1 by omega)]
    by_cases e : i = n
    · subst e
      dsimp only
      rw [upd_s, upd_s, if_pos rfl, if_pos rfl]
      exact ⟨rfl, hh, rfl, hv, if_pos rfl⟩
    · dsimp only
      rw [upd_n e, upd_n e, if_neg e, if_neg e]
      obtain ⟨a1, a2, a3, a4, a5⟩ := h3 i (by omega)
      refine ⟨a1, a2, a3, a4, ?_⟩
      show (if hr i = h then some v else bk (hr i)) = some (sr i)
      rw [if_neg (fun q => by rw [q, h0] at a5; cases a5)]
      exact a5
  · by_cases c : k = h
    · exact ⟨n, by omega, (if_pos rfl).trans c.symm⟩
    · have e : (if k = h then some v else bk k) = some u := e
      rw [if_neg c] at e
      obtain ⟨i, hi, ei⟩ := h4 k u e
      exact ⟨i, by omega, (if_neg (by omega)).trans ei⟩
set_option maxHeartbeats 8000000 in
theorem c_X1_readEntry {G : Gx} {d : Nat} {I : FI} {R : FR} {J : FJ} {Q : Po} (hRK : RK R) {t : Nat → Nat} {z : Nat} (hT : TxC I t z) {b n : Nat} {bk : Nat → Option Nat} (hb : b = 63 ∨ b = 66) (hB : BookC I b n bk) {p : Nat} {fp : Int32} (hp : p ≤ z) (hk : ∀ h v p' I', bkE t z bk n p = .inr ((h, v), p') → BookC I' b (n + 1) (upB bk h v) → FrB I I' b → p' ≤ z → Q (.inl none) 103 (tp t z I' p' 0 fp) R J) (hbd : ∀ k q p', bkE t z bk n p = .inl (k, q) → 0 < k → k ≤ 3 → p' ≤ z → Q (.inl none) 103 (tp t z I p' (nI k) (nI q)) R J) : Cc G mX1_readEntry (d + 10) 0 0 [rf G b, rf G 1] 103 (tp t z I p 0 fp) R J Q := by
  have n8 := hB.1
  have nl := nuF_le t z p
  obtain ⟨lyb0, lyb1, lyb2⟩ := ly_b hb
  have hB1 : BookC (tp t z I p 0 fp) b n bk := hB.fr (fun a q1 q2 => tp_n (by omega))
  show V _ _ _ _ _ _ _ _ [(0, rf G b), (1, rf G 1)] [] _ _ _ _ _
  by_cases cN : p < z ∧ dg (t p) = true
  · by_cases ct : bk (nuF t z p) = none
    · by_cases c24 : nuF t z p < 24
      · have ePN : pNum t z 0 24 p = .inr (nuF t z p, nx t z p) := (if_pos cN).trans (if_pos ⟨Nat.zero_le _, c24⟩)
        by_cases c8 : n < 8
        · refine V_aload_n 1 1 rfl _ rfl rfl dX1_readEntry_0 rfl ?_
          refine V_callV (K' := 0) (S' := 0) 4 1 8 0 [] mkX8_isNumber lkX1_35 (by decide) rfl rfl (by decide) rfl (Nat.le_of_ble_eq_true rfl) (Nat.le_of_ble_eq_true rfl) (Nat.le_of_ble_eq_true rfl) (Nat.le_of_ble_eq_true rfl) rfl rfl dX1_readEntry_1 rfl (c_X8_isNumber hRK hT (fun _ => ?_) (fun q => absurd cN q))
          refine Kq_i (k' := 0) (sl' := 0) rfl rfl ?_
          refine V_if_eq 26 7 rfl dX1_readEntry_4 rfl (fun c4 => absurd c4 (by decide)) (fun c4 => ?_)
          refine V_aload_n 8 0 rfl _ rfl rfl dX1_readEntry_7 rfl ?_
          refine V_aload_n 9 1 rfl _ rfl rfl dX1_readEntry_8 rfl ?_
          refine V_getI 12 1 8 6 (nI (nuF t z p)) rfl flX1_38 rfl rfl rfl (by decide) dX1_readEntry_9 rfl ?_
          refine V_callV (K' := 0) (S' := 0) 15 b 1 1 [.int (nI (nuF t z p))] mkX1_isTold lkX1_41 (by decide) rfl (ly_b hb).1 (by omega) rfl (Nat.le_of_ble_eq_true rfl) (Nat.le_of_ble_eq_true rfl) (Nat.le_of_ble_eq_true rfl) (Nat.le_of_ble_eq_true rfl) rfl rfl dX1_readEntry_12 rfl (c_X1_isTold hRK hb hB1 (by omega) (fun q => absurd ct q) (fun _ => ?_))
          refine Kq_i (k' := 0) (sl' := 0) rfl rfl ?_
          refine V_if_eq 26 18 rfl dX1_readEntry_15 rfl (fun c15 => ?_) (fun c15 => absurd c15 (by decide))
          refine V_aload_n 27 0 rfl _ rfl rfl dX1_readEntry_26 rfl ?_
          refine V_getI 30 b 1 2 (nI n) (show tp t z _ _ _ _ b 2 = _ from by rw [tp_n (by omega)]; exact hB.2.1) flX1_18 rfl (ly_b hb).1 rfl (by omega) dX1_readEntry_27 rfl ?_
          refine V_bipush 32 (8) rfl dX1_readEntry_30 rfl ?_
          refine V_icmp_lt 56 35 rfl dX1_readEntry_32 rfl (fun c32 => ?_) (fun c32 => absurd (nI_lt (b := 8) c8 (by decide)) c32)
          refine V_aload_n 57 1 rfl _ rfl rfl dX1_readEntry_56 rfl ?_
          refine V_iconst 58 (0) rfl dX1_readEntry_57 rfl ?_
          refine V_bipush 60 (23) rfl dX1_readEntry_58 rfl ?_
          refine V_callV (K' := 0) (S' := 0) 63 1 8 2 [.int 0, .int 23] mkX8_takeNumber lkX1_49 (by decide) rfl rfl (by decide) rfl (Nat.le_of_ble_eq_true rfl) (Nat.le_of_ble_eq_true rfl) (Nat.le_of_ble_eq_true rfl) (Nat.le_of_ble_eq_true rfl) rfl rfl dX1_readEntry_60 rfl (c_X8_takeNumber (lo := 0) (cnt := 24) hRK hT (by decide) (hh_lit 23 (by decide)) hp (fun e => absurd rfl e) (fun v60 q60 _ e60 => ?_) (fun k _ e => absurd (ePN.symm.trans e) (by intro q; cases q)))
          obtain ⟨rfl, rfl⟩ : nuF t z p = v60 ∧ nx t z p = q60 := by have q := Sum.inr.inj (ePN.symm.trans e60); exact ⟨congrArg Prod.fst q, congrArg Prod.snd q⟩
          refine Kq_i (k' := 0) (sl' := 0) rfl rfl ?_
          refine V_istore_n 64 [(2, .int (nI (nuF t z p))), (0, rf G b), (1, rf G 1)] (by decide) rfl rfl dX1_readEntry_63 rfl ?_
          refine V_aload_n 65 2 rfl _ rfl rfl dX1_readEntry_64 rfl ?_
          refine V_iconst 66 (0) rfl dX1_readEntry_65 rfl ?_
          refine V_bipush 68 (99) rfl dX1_readEntry_66 rfl ?_
          refine V_callV (K' := 0) (S' := 0) 71 1 8 2 [.int 0, .int 99] mkX8_takeNumber lkX1_49 (by decide) rfl rfl (by decide) rfl (Nat.le_of_ble_eq_true rfl) (Nat.le_of_ble_eq_true rfl) (Nat.le_of_ble_eq_true rfl) (Nat.le_of_ble_eq_true rfl) rfl rfl dX1_readEntry_68 rfl (c_X8_takeNumber (lo := 0) (cnt := 100) hRK hT (by decide) (hh_lit 99 (by decide)) (nx_z hp).2.1 (fun e => absurd rfl e) (fun v68 p68 _ e68 => ?_) (fun k68 _ e68 => ?_))
          · refine Kq_i (k' := 0) (sl' := 0) rfl rfl ?_
            obtain ⟨-, -, lo68, hi68, -, -, lt68, hp68⟩ := pNum_ok e68
            refine V_istore_n 72 [(3, .int (nI v68)), (2, .int (nI (nuF t z p))), (0, rf G b), (1, rf G 1)] (by decide) rfl rfl dX1_readEntry_71 rfl ?_
            refine V_aload_n 73 3 rfl _ rfl rfl dX1_readEntry_72 rfl ?_
            refine V_bipush 75 (59) rfl dX1_readEntry_73 rfl ?_
            refine V_callV (K' := 0) (S' := 0) 78 1 8 1 [.int 59] mkX8_takeSign lkX1_53 (by decide) rfl rfl (by decide) rfl (Nat.le_of_ble_eq_true rfl) (Nat.le_of_ble_eq_true rfl) (Nat.le_of_ble_eq_true rfl) (Nat.le_of_ble_eq_true rfl) rfl rfl dX1_readEntry_75 rfl (c_X8_takeSign (c := 59) hRK hT (by decide) (by decide) (by decide) hp68 (fun e => absurd rfl e) (fun p75 _ e75 => ?_) (fun _ e75 => ?_))
            · refine Kq_v (k' := 0) (sl' := 0) rfl rfl ?_
              obtain ⟨-, -, -, lt75, hp75⟩ := pSig_ok e75
              refine V_aload_n 79 3 rfl _ rfl rfl dX1_readEntry_78 rfl ?_
              refine V_callV (K' := 0) (S' := 0) 82 1 8 0 [] mkX8_isFaulty lkX1_28 (by decide) rfl rfl (by decide) rfl (Nat.le_of_ble_eq_true rfl) (Nat.le_of_ble_eq_true rfl) (Nat.le_of_ble_eq_true rfl) (Nat.le_of_ble_eq_true rfl) rfl rfl dX1_readEntry_79 rfl (c_X8_isFaulty (fun _ => ?_) (fun e => absurd rfl e))
              refine Kq_i (k' := 0) (sl' := 0) rfl rfl ?_
              refine V_if_ne 124 85 rfl dX1_readEntry_82 rfl (fun c82 => absurd c82 (by decide)) (fun c82 => ?_)
              refine V_aload_n 86 2 rfl _ rfl rfl dX1_readEntry_85 rfl ?_
              refine V_getI 89 b 1 2 (nI n) (show tp t z _ _ _ _ b 2 = _ from by rw [tp_n (by omega)]; exact hB.2.1) flX1_18 rfl (ly_b hb).1 rfl (by omega) dX1_readEntry_86 rfl ?_
              refine V_bipush 91 (8) rfl dX1_readEntry_89 rfl ?_
              refine V_icmp_ge 124 94 rfl dX1_readEntry_91 rfl (fun c91 => absurd c91 (nI_ge (b := 8) c8 (by decide))) (fun c91 => ?_)
              refine V_aload_n 95 2 rfl _ rfl rfl dX1_readEntry_94 rfl ?_
              refine V_getR 98 b 1 0 (b + 1) (rk_b0 hRK hb) flX1_11 rfl (ly_b hb).1 rfl (by omega) dX1_readEntry_95 rfl ?_
              refine V_aload_n 99 2 rfl _ rfl rfl dX1_readEntry_98 rfl ?_
              refine V_getI 102 b 1 2 (nI n) (show tp t z _ _ _ _ b 2 = _ from by rw [tp_n (by omega)]; exact hB.2.1) flX1_18 rfl (ly_b hb).1 rfl (by omega) dX1_readEntry_99 rfl ?_
              refine V_iload_n 103 1 rfl rfl dX1_readEntry_102 rfl ?_
              refine V_iastN 104 (b + 1) 8 n (by omega) (by decide) (ly_b hb).2.1 (by omega) dX1_readEntry_103 rfl ?_
              rw [tp_up (by omega)]
              refine V_aload_n 105 2 rfl _ rfl rfl dX1_readEntry_104 rfl ?_
              refine V_getR 108 b 1 1 (b + 2) (rk_b1 hRK hb) flX1_15 rfl (ly_b hb).1 rfl (by omega) dX1_readEntry_105 rfl ?_
              refine V_aload_n 109 2 rfl _ rfl rfl dX1_readEntry_108 rfl ?_
              refine V_getI 112 b 1 2 (nI n) (show tp t z _ _ _ _ b 2 = _ from by rw [tp_n (by omega), up2_n _ _ _ (by omega)]; exact hB.2.1) flX1_18 rfl (ly_b hb).1 rfl (by omega) dX1_readEntry_109 rfl ?_
              refine V_iload_n 113 0 rfl rfl dX1_readEntry_112 rfl ?_
              refine V_iastN 114 (b + 2) 8 n (by omega) (by decide) (ly_b hb).2.2 (by omega) dX1_readEntry_113 rfl ?_
              rw [tp_up (by omega)]
              refine V_aload_n 115 2 rfl _ rfl rfl dX1_readEntry_114 rfl ?_
              refine V_dup 116 rfl dX1_readEntry_115 rfl ?_
              refine V_getI 119 b 1 2 (nI n) (show tp t z _ _ _ _ b 2 = _ from by rw [tp_n (by omega), up2_n _ _ _ (by omega), up2_n _ _ _ (by omega)]; exact hB.2.1) flX1_18 rfl (ly_b hb).1 rfl (by omega) dX1_readEntry_116 rfl ?_
              refine V_iconst 120 (1) rfl dX1_readEntry_119 rfl ?_
              refine V_iadd 121 dX1_readEntry_120 rfl ?_
              refine V_rw (nI_add n 1) ?_
              refine V_putI 124 b 1 2 flX1_18 rfl (ly_b hb).1 rfl (by omega) rfl dX1_readEntry_121 rfl ?_
              rw [tp_up (by omega)]
              refine V_ret_v rfl (Nat.le_of_ble_eq_true rfl) (fun h => absurd h (by decide)) (Nat.le_of_ble_eq_true rfl) (hk _ _ _ _ ((bd_ok ePN).trans ((if_neg (fun q => q ct)).trans ((if_neg (by omega)).trans ((bd_ok e68).trans (bd_ok e75))))) (BookC_add hB c8 c24 (by omega) ct) (fun a ha => by rw [up2_n _ _ _ (by omega), up2_n _ _ _ (by omega), up2_n _ _ _ (by omega)]) hp75) dX1_readEntry_124
            · refine Kq_v (k' := 0) (sl' := 0) rfl rfl ?_
              refine V_aload_n 79 3 rfl _ rfl rfl dX1_readEntry_78 rfl ?_
              refine V_callV (K' := 0) (S' := 0) 82 1 8 0 [] mkX8_isFaulty lkX1_28 (by decide) rfl rfl (by decide) rfl (Nat.le_of_ble_eq_true rfl) (Nat.le_of_ble_eq_true rfl) (Nat.le_of_ble_eq_true rfl) (Nat.le_of_ble_eq_true rfl) rfl rfl dX1_readEntry_79 rfl (c_X8_isFaulty (fun e => absurd e (show ¬ (1 : Int32) = 0 by decide)) (fun _ => ?_))
              refine Kq_i (k' := 0) (sl' := 0) rfl rfl ?_
              refine V_if_ne 124 85 rfl dX1_readEntry_82 rfl (fun c82 => ?_) (fun c82 => absurd c82 (by decide))
              refine V_ret_v rfl (Nat.le_of_ble_eq_true rfl) (fun h => absurd h (by decide)) (Nat.le_of_ble_eq_true rfl) (hbd 1 _ _ ((bd_ok ePN).trans ((if_neg (fun q => q ct)).trans ((if_neg (by omega)).trans ((bd_ok e68).trans (bd_no e75))))) (by decide) (by decide) hp68) dX1_readEntry_124
          · refine Kq_i (k' := 0) (sl' := 0) rfl rfl ?_
            have kk68 := pNum_k e68
            have kne68 := kd_ne kk68.1 kk68.2
            refine V_istore_n 72 [(3, .int 0), (2, .int (nI (nuF t z p))), (0, rf G b), (1, rf G 1)] (by decide) rfl rfl dX1_readEntry_71 rfl ?_
            refine V_aload_n 73 3 rfl _ rfl rfl dX1_readEntry_72 rfl ?_
            refine V_bipush 75 (59) rfl dX1_readEntry_73 rfl ?_
            refine V_callV (K' := 0) (S' := 0) 78 1 8 1 [.int 59] mkX8_takeSign lkX1_53 (by decide) rfl rfl (by decide) rfl (Nat.le_of_ble_eq_true rfl) (Nat.le_of_ble_eq_true rfl) (Nat.le_of_ble_eq_true rfl) (Nat.le_of_ble_eq_true rfl) rfl rfl dX1_readEntry_75 rfl (c_X8_takeSign (c := 59) hRK hT (by decide) (by decide) (by decide) (nx_z hp).2.1 (fun _ => ?_) (fun _ e _ => absurd e kne68) (fun e _ => absurd e kne68))
            refine Kq_v (k' := 0) (sl' := 0) rfl rfl ?_
            refine V_aload_n 79 3 rfl _ rfl rfl dX1_readEntry_78 rfl ?_
            refine V_callV (K' := 0) (S' := 0) 82 1 8 0 [] mkX8_isFaulty lkX1_28 (by decide) rfl rfl (by decide) rfl (Nat.le_of_ble_eq_true rfl) (Nat.le_of_ble_eq_true rfl) (Nat.le_of_ble_eq_true rfl) (Nat.le_of_ble_eq_true rfl) rfl rfl dX1_readEntry_79 rfl (c_X8_isFaulty (fun e => absurd e kne68) (fun _ => ?_))
            refine Kq_i (k' := 0) (sl' := 0) rfl rfl ?_
            refine V_if_ne 124 85 rfl dX1_readEntry_82 rfl (fun c82 => ?_) (fun c82 => absurd c82 (by decide))
            refine V_ret_v rfl (Nat.le_of_ble_eq_true rfl) (fun h => absurd h (by decide)) (Nat.le_of_ble_eq_true rfl) (hbd _ _ _ ((bd_ok ePN).trans ((if_neg (fun q => q ct)).trans ((if_neg (by omega)).trans (bd_no e68)))) kk68.1 kk68.2 (nx_z hp).2.1) dX1_readEntry_124
        · refine V_aload_n 1 1 rfl _ rfl rfl dX1_readEntry_0 rfl ?_
          refine V_callV (K' := 0) (S' := 0) 4 1 8 0 [] mkX8_isNumber lkX1_35 (by decide) rfl rfl (by decide) rfl (Nat.le_of_ble_eq_true rfl) (Nat.le_of_ble_eq_true rfl) (Nat.le_of_ble_eq_true rfl) (Nat.le_of_ble_eq_true rfl) rfl rfl dX1_readEntry_1 rfl (c_X8_isNumber hRK hT (fun _ => ?_) (fun q => absurd cN q))
          refine Kq_i (k' := 0) (sl' := 0) rfl rfl ?_
          refine V_if_eq 26 7 rfl dX1_readEntry_4 rfl (fun c4 => absurd c4 (by decide)) (fun c4 => ?_)
          refine V_aload_n 8 0 rfl _ rfl rfl dX1_readEntry_7 rfl ?_
          refine V_aload_n 9 1 rfl _ rfl rfl dX1_readEntry_8 rfl ?_
          refine V_getI 12 1 8 6 (nI (nuF t z p)) rfl flX1_38 rfl rfl rfl (by decide) dX1_readEntry_9 rfl ?_
          refine V_callV (K' := 0) (S' := 0) 15 b 1 1 [.int (nI (nuF t z p))] mkX1_isTold lkX1_41 (by decide) rfl (ly_b hb).1 (by omega) rfl (Nat.le_of_ble_eq_true rfl) (Nat.le_of_ble_eq_true rfl) (Nat.le_of_ble_eq_true rfl) (Nat.le_of_ble_eq_true rfl) rfl rfl dX1_readEntry_12 rfl (c_X1_isTold hRK hb hB1 (by omega) (fun q => absurd ct q) (fun _ => ?_))
          refine Kq_i (k' := 0) (sl' := 0) rfl rfl ?_
          refine V_if_eq 26 18 rfl dX1_readEntry_15 rfl (fun c15 => ?_) (fun c15 => absurd c15 (by decide))
          refine V_aload_n 27 0 rfl _ rfl rfl dX1_readEntry_26 rfl ?_
          refine V_getI 30 b 1 2 (nI n) (show tp t z _ _ _ _ b 2 = _ from by rw [tp_n (by omega)]; exact hB.2.1) flX1_18 rfl (ly_b hb).1 rfl (by omega) dX1_readEntry_27 rfl ?_
          refine V_bipush 32 (8) rfl dX1_readEntry_30 rfl ?_
          refine V_icmp_lt 56 35 rfl dX1_readEntry_32 rfl (fun c32 => absurd c32 (nI_nlt (b := 8) (by omega) (by omega))) (fun c32 => ?_)
          refine V_aload_n 36 1 rfl _ rfl rfl dX1_readEntry_35 rfl ?_
          refine V_callV (K' := 0) (S' := 0) 39 1 8 0 [] mkX8_isNumber lkX1_35 (by decide) rfl rfl (by decide) rfl (Nat.le_of_ble_eq_true rfl) (Nat.le_of_ble_eq_true rfl) (Nat.le_of_ble_eq_true rfl) (Nat.le_of_ble_eq_true rfl) rfl rfl dX1_readEntry_36 rfl (c_X8_isNumber hRK hT (fun _ => ?_) (fun q => absurd cN q))
          refine Kq_i (k' := 0) (sl' := 0) rfl rfl ?_
          refine V_if_eq 56 42 rfl dX1_readEntry_39 rfl (fun c39 => absurd c39 (by decide)) (fun c39 => ?_)
          refine V_aload_n 43 1 rfl _ rfl rfl dX1_readEntry_42 rfl ?_
          refine V_getI 46 1 8 6 (nI (nuF t z p)) rfl flX1_38 rfl rfl rfl (by decide) dX1_readEntry_43 rfl ?_
          refine V_bipush 48 (24) rfl dX1_readEntry_46 rfl ?_
          refine V_icmp_ge 56 51 rfl dX1_readEntry_48 rfl (fun c48 => absurd c48 (nI_ge (b := 24) c24 (by decide))) (fun c48 => ?_)
          refine V_aload_n 52 1 rfl _ rfl rfl dX1_readEntry_51 rfl ?_
          refine V_iconst 53 (3) rfl dX1_readEntry_52 rfl ?_
          refine V_callV (K' := 0) (S' := 0) 56 1 8 1 [.int 3] mkX8_fail lkX1_45 (by decide) rfl rfl (by decide) rfl (Nat.le_of_ble_eq_true rfl) (Nat.le_of_ble_eq_true rfl) (Nat.le_of_ble_eq_true rfl) (Nat.le_of_ble_eq_true rfl) rfl rfl dX1_readEntry_53 rfl (c_X8_fail (k := 3) hRK hT (fun e => absurd rfl e) (fun _ => ?_))
          refine Kq_v (k' := 0) (sl' := 0) rfl rfl ?_
          refine V_aload_n 57 1 rfl _ rfl rfl dX1_readEntry_56 rfl ?_
          refine V_iconst 58 (0) rfl dX1_readEntry_57 rfl ?_
          refine V_bipush 60 (23) rfl dX1_readEntry_58 rfl ?_
          refine V_callV (K' := 0) (S' := 0) 63 1 8 2 [.int 0, .int 23] mkX8_takeNumber lkX1_49 (by decide) rfl rfl (by decide) rfl (Nat.le_of_ble_eq_true rfl) (Nat.le_of_ble_eq_true rfl) (Nat.le_of_ble_eq_true rfl) (Nat.le_of_ble_eq_true rfl) rfl rfl dX1_readEntry_60 rfl (c_X8_takeNumber (lo := 0) (cnt := 24) hRK hT (by decide) (hh_lit 23 (by decide)) hp (fun _ => ?_) (fun _ _ e _ => absurd e (show ¬ (3 : Int32) = 0 by decide)) (fun _ e _ => absurd e (show ¬ (3 : Int32) = 0 by decide)))
          refine Kq_i (k' := 0) (sl' := 0) rfl rfl ?_
          refine V_istore_n 64 [(2, .int 0), (0, rf G b), (1, rf G 1)] (by decide) rfl rfl dX1_readEntry_63 rfl ?_
          refine V_aload_n 65 2 rfl _ rfl rfl dX1_readEntry_64 rfl ?_
          refine V_iconst 66 (0) rfl dX1_readEntry_65 rfl ?_
          refine V_bipush 68 (99) rfl dX1_readEntry_66 rfl ?_
          refine V_callV (K' := 0) (S' := 0) 71 1 8 2 [.int 0, .int 99] mkX8_takeNumber lkX1_49 (by decide) rfl rfl (by decide) rfl (Nat.le_of_ble_eq_true rfl) (Nat.le_of_ble_eq_true rfl) (Nat.le_of_ble_eq_true rfl) (Nat.le_of_ble_eq_true rfl) rfl rfl dX1_readEntry_68 rfl (c_X8_takeNumber (lo := 0) (cnt := 100) hRK hT (by decide) (hh_lit 99 (by decide)) hp (fun _ => ?_) (fun _ _ e _ => absurd e (show ¬ (3 : Int32) = 0 by decide)) (fun _ e _ => absurd e (show ¬ (3 : Int32) = 0 by decide)))
          refine Kq_i (k' := 0) (sl' := 0) rfl rfl ?_
          refine V_istore_n 72 [(3, .int 0), (2, .int 0), (0, rf G b), (1, rf G 1)] (by decide) rfl rfl dX1_readEntry_71 rfl ?_
          refine V_aload_n 73 3 rfl _ rfl rfl dX1_readEntry_72 rfl ?_
          refine V_bipush 75 (59) rfl dX1_readEntry_73 rfl ?_
          refine V_callV (K' := 0) (S' := 0) 78 1 8 1 [.int 59] mkX8_takeSign lkX1_53 (by decide) rfl rfl (by decide) rfl (Nat.le_of_ble_eq_true rfl) (Nat.le_of_ble_eq_true rfl) (Nat.le_of_ble_eq_true rfl) (Nat.le_of_ble_eq_true rfl) rfl rfl dX1_readEntry_75 rfl (c_X8_takeSign (c := 59) hRK hT (by decide) (by decide) (by decide) hp (fun _ => ?_) (fun _ e _ => absurd e (show ¬ (3 : Int32) = 0 by decide)) (fun e _ => absurd e (show ¬ (3 : Int32) = 0 by decide)))
          refine Kq_v (k' := 0) (sl' := 0) rfl rfl ?_
          refine V_aload_n 79 3 rfl _ rfl rfl dX1_readEntry_78 rfl ?_
          refine V_callV (K' := 0) (S' := 0) 82 1 8 0 [] mkX8_isFaulty lkX1_28 (by decide) rfl rfl (by decide) rfl (Nat.le_of_ble_eq_true rfl) (Nat.le_of_ble_eq_true rfl) (Nat.le_of_ble_eq_true rfl) (Nat.le_of_ble_eq_true rfl) rfl rfl dX1_readEntry_79 rfl (c_X8_isFaulty (fun e => absurd e (show ¬ (3 : Int32) = 0 by decide)) (fun _ => ?_))
          refine Kq_i (k' := 0) (sl' := 0) rfl rfl ?_
          refine V_if_ne 124 85 rfl dX1_readEntry_82 rfl (fun c82 => ?_) (fun c82 => absurd c82 (by decide))
          refine V_ret_v rfl (Nat.le_of_ble_eq_true rfl) (fun h => absurd h (by decide)) (Nat.le_of_ble_eq_true rfl) (hbd 3 _ _ ((bd_ok ePN).trans ((if_neg (fun q => q ct)).trans (if_pos (by omega)))) (by decide) (by decide) hp) dX1_readEntry_124
      · have ePN : pNum t z 0 24 p = .inl (2, p) := (if_pos cN).trans (if_neg (fun q => c24 q.2))
        by_cases c8 : n < 8
        · refine V_aload_n 1 1 rfl _ rfl rfl dX1_readEntry_0 rfl ?_
          refine V_callV (K' := 0) (S' := 0) 4 1 8 0 [] mkX8_isNumber lkX1_35 (by decide) rfl rfl (by decide) rfl (Nat.le_of_ble_eq_true rfl) (Nat.le_of_ble_eq_true rfl) (Nat.le_of_ble_eq_true rfl) (Nat.le_of_ble_eq_true rfl) rfl rfl dX1_readEntry_1 rfl (c_X8_isNumber hRK hT (fun _ => ?_) (fun q => absurd cN q))
          refine Kq_i (k' := 0) (sl' := 0) rfl rfl ?_
          refine V_if_eq 26 7 rfl dX1_readEntry_4 rfl (fun c4 => absurd c4 (by decide)) (fun c4 => ?_)
          refine V_aload_n 8 0 rfl _ rfl rfl dX1_readEntry_7 rfl ?_
          refine V_aload_n 9 1 rfl _ rfl rfl dX1_readEntry_8 rfl ?_
          refine V_getI 12 1 8 6 (nI (nuF t z p)) rfl flX1_38 rfl rfl rfl (by decide) dX1_readEntry_9 rfl ?_
          refine V_callV (K' := 0) (S' := 0) 15 b 1 1 [.int (nI (nuF t z p))] mkX1_isTold lkX1_41 (by decide) rfl (ly_b hb).1 (by omega) rfl (Nat.le_of_ble_eq_true rfl) (Nat.le_of_ble_eq_true rfl) (Nat.le_of_ble_eq_true rfl) (Nat.le_of_ble_eq_true rfl) rfl rfl dX1_readEntry_12 rfl (c_X1_isTold hRK hb hB1 (by omega) (fun q => absurd ct q) (fun _ => ?_))
          refine Kq_i (k' := 0) (sl' := 0) rfl rfl ?_
          refine V_if_eq 26 18 rfl dX1_readEntry_15 rfl (fun c15 => ?_) (fun c15 => absurd c15 (by decide))
          refine V_aload_n 27 0 rfl _ rfl rfl dX1_readEntry_26 rfl ?_
          refine V_getI 30 b 1 2 (nI n) (show tp t z _ _ _ _ b 2 = _ from by rw [tp_n (by omega)]; exact hB.2.1) flX1_18 rfl (ly_b hb).1 rfl (by omega) dX1_readEntry_27 rfl ?_
          refine V_bipush 32 (8) rfl dX1_readEntry_30 rfl ?_
          refine V_icmp_lt 56 35 rfl dX1_readEntry_32 rfl (fun c32 => ?_) (fun c32 => absurd (nI_lt (b := 8) c8 (by decide)) c32)
          refine V_aload_n 57 1 rfl _ rfl rfl dX1_readEntry_56 rfl ?_
          refine V_iconst 58 (0) rfl dX1_readEntry_57 rfl ?_
          refine V_bipush 60 (23) rfl dX1_readEntry_58 rfl ?_
          refine V_callV (K' := 0) (S' := 0) 63 1 8 2 [.int 0, .int 23] mkX8_takeNumber lkX1_49 (by decide) rfl rfl (by decide) rfl (Nat.le_of_ble_eq_true rfl) (Nat.le_of_ble_eq_true rfl) (Nat.le_of_ble_eq_true rfl) (Nat.le_of_ble_eq_true rfl) rfl rfl dX1_readEntry_60 rfl (c_X8_takeNumber (lo := 0) (cnt := 24) hRK hT (by decide) (hh_lit 23 (by decide)) hp (fun e => absurd rfl e) (fun v q _ e => absurd (ePN.symm.trans e) (by intro q; cases q)) (fun k60 _ e60 => ?_))
          refine Kq_i (k' := 0) (sl' := 0) rfl rfl ?_
          have kk60 := pNum_k e60
          have kne60 := kd_ne kk60.1 kk60.2
          refine V_istore_n 64 [(2, .int 0), (0, rf G b), (1, rf G 1)] (by decide) rfl rfl dX1_readEntry_63 rfl ?_
          refine V_aload_n 65 2 rfl _ rfl rfl dX1_readEntry_64 rfl ?_
          refine V_iconst 66 (0) rfl dX1_readEntry_65 rfl ?_
          refine V_bipush 68 (99) rfl dX1_readEntry_66 rfl ?_
          refine V_callV (K' := 0) (S' := 0) 71 1 8 2 [.int 0, .int 99] mkX8_takeNumber lkX1_49 (by decide) rfl rfl (by decide) rfl (Nat.le_of_ble_eq_true rfl) (Nat.le_of_ble_eq_true rfl) (Nat.le_of_ble_eq_true rfl) (Nat.le_of_ble_eq_true rfl) rfl rfl dX1_readEntry_68 rfl (c_X8_takeNumber (lo := 0) (cnt := 100) hRK hT (by decide) (hh_lit 99 (by decide)) hp (fun _ => ?_) (fun _ _ e _ => absurd e kne60) (fun _ e _ => absurd e kne60))
          refine Kq_i (k' := 0) (sl' := 0) rfl rfl ?_
          refine V_istore_n 72 [(3, .int 0), (2, .int 0), (0, rf G b), (1, rf G 1)] (by decide) rfl rfl dX1_readEntry_71 rfl ?_
          refine V_aload_n 73 3 rfl _ rfl rfl dX1_readEntry_72 rfl ?_
          refine V_bipush 75 (59) rfl dX1_readEntry_73 rfl ?_
          refine V_callV (K' := 0) (S' := 0) 78 1 8 1 [.int 59] mkX8_takeSign lkX1_53 (by decide) rfl rfl (by decide) rfl (Nat.le_of_ble_eq_true rfl) (Nat.le_of_ble_eq_true rfl) (Nat.le_of_ble_eq_true rfl) (Nat.le_of_ble_eq_true rfl) rfl rfl dX1_readEntry_75 rfl (c_X8_takeSign (c := 59) hRK hT (by decide) (by decide) (by decide) hp (fun _ => ?_) (fun _ e _ => absurd e kne60) (fun e _ => absurd e kne60))
          refine Kq_v (k' := 0) (sl' := 0) rfl rfl ?_
          refine V_aload_n 79 3 rfl _ rfl rfl dX1_readEntry_78 rfl ?_
          refine V_callV (K' := 0) (S' := 0) 82 1 8 0 [] mkX8_isFaulty lkX1_28 (by decide) rfl rfl (by decide) rfl (Nat.le_of_ble_eq_true rfl) (Nat.le_of_ble_eq_true rfl) (Nat.le_of_ble_eq_true rfl) (Nat.le_of_ble_eq_true rfl) rfl rfl dX1_readEntry_79 rfl (c_X8_isFaulty (fun e => absurd e kne60) (fun _ => ?_))
          refine Kq_i (k' := 0) (sl' := 0) rfl rfl ?_
          refine V_if_ne 124 85 rfl dX1_readEntry_82 rfl (fun c82 => ?_) (fun c82 => absurd c82 (by decide))
          refine V_ret_v rfl (Nat.le_of_ble_eq_true rfl) (fun h => absurd h (by decide)) (Nat.le_of_ble_eq_true rfl) (hbd _ _ _ (bd_no e60) kk60.1 kk60.2 hp) dX1_readEntry_124
        · refine V_aload_n 1 1 rfl _ rfl rfl dX1_readEntry_0 rfl ?_
          refine V_callV (K' := 0) (S' := 0) 4 1 8 0 [] mkX8_isNumber lkX1_35 (by decide) rfl rfl (by decide) rfl (Nat.le_of_ble_eq_true rfl) (Nat.le_of_ble_eq_true rfl) (Nat.le_of_ble_eq_true rfl) (Nat.le_of_ble_eq_true rfl) rfl rfl dX1_readEntry_1 rfl (c_X8_isNumber hRK hT (fun _ => ?_) (fun q => absurd cN q))
          refine Kq_i (k' := 0) (sl' := 0) rfl rfl ?_
          refine V_if_eq 26 7 rfl dX1_readEntry_4 rfl (fun c4 => absurd c4 (by decide)) (fun c4 => ?_)
          refine V_aload_n 8 0 rfl _ rfl rfl dX1_readEntry_7 rfl ?_
          refine V_aload_n 9 1 rfl _ rfl rfl dX1_readEntry_8 rfl ?_
          refine V_getI 12 1 8 6 (nI (nuF t z p)) rfl flX1_38 rfl rfl rfl (by decide) dX1_readEntry_9 rfl ?_
          refine V_callV (K' := 0) (S' := 0) 15 b 1 1 [.int (nI (nuF t z p))] mkX1_isTold lkX1_41 (by decide) rfl (ly_b hb).1 (by omega) rfl (Nat.le_of_ble_eq_true rfl) (Nat.le_of_ble_eq_true rfl) (Nat.le_of_ble_eq_true rfl) (Nat.le_of_ble_eq_true rfl) rfl rfl dX1_readEntry_12 rfl (c_X1_isTold hRK hb hB1 (by omega) (fun q => absurd ct q) (fun _ => ?_))
          refine Kq_i (k' := 0) (sl' := 0) rfl rfl ?_
          refine V_if_eq 26 18 rfl dX1_readEntry_15 rfl (fun c15 => ?_) (fun c15 => absurd c15 (by decide))
          refine V_aload_n 27 0 rfl _ rfl rfl dX1_readEntry_26 rfl ?_
          refine V_getI 30 b 1 2 (nI n) (show tp t z _ _ _ _ b 2 = _ from by rw [tp_n (by omega)]; exact hB.2.1) flX1_18 rfl (ly_b hb).1 rfl (by omega) dX1_readEntry_27 rfl ?_
          refine V_bipush 32 (8) rfl dX1_readEntry_30 rfl ?_
          refine V_icmp_lt 56 35 rfl dX1_readEntry_32 rfl (fun c32 => absurd c32 (nI_nlt (b := 8) (by omega) (by omega))) (fun c32 => ?_)
          refine V_aload_n 36 1 rfl _ rfl rfl dX1_readEntry_35 rfl ?_
          refine V_callV (K' := 0) (S' := 0) 39 1 8 0 [] mkX8_isNumber lkX1_35 (by decide) rfl rfl (by decide) rfl (Nat.le_of_ble_eq_true rfl) (Nat.le_of_ble_eq_true rfl) (Nat.le_of_ble_eq_true rfl) (Nat.le_of_ble_eq_true rfl) rfl rfl dX1_readEntry_36 rfl (c_X8_isNumber hRK hT (fun _ => ?_) (fun q => absurd cN q))
          refine Kq_i (k' := 0) (sl' := 0) rfl rfl ?_
          refine V_if_eq 56 42 rfl dX1_readEntry_39 rfl (fun c39 => absurd c39 (by decide)) (fun c39 => ?_)
          refine V_aload_n 43 1 rfl _ rfl rfl dX1_readEntry_42 rfl ?_
          refine V_getI 46 1 8 6 (nI (nuF t z p)) rfl flX1_38 rfl rfl rfl (by decide) dX1_readEntry_43 rfl ?_
          refine V_bipush 48 (24) rfl dX1_readEntry_46 rfl ?_
          refine V_icmp_ge 56 51 rfl dX1_readEntry_48 rfl (fun c48 => ?_) (fun c48 => absurd (nI_le (a := 24) (by omega) (by omega)) c48)
          refine V_aload_n 57 1 rfl _ rfl rfl dX1_readEntry_56 rfl ?_
          refine V_iconst 58 (0) rfl dX1_readEntry_57 rfl ?_
          refine V_bipush 60 (23) rfl dX1_readEntry_58 rfl ?_
          refine V_callV (K' := 0) (S' := 0) 63 1 8 2 [.int 0, .int 23] mkX8_takeNumber lkX1_49 (by decide) rfl rfl (by decide) rfl (Nat.le_of_ble_eq_true rfl) (Nat.le_of_ble_eq_true rfl) (Nat.le_of_ble_eq_true rfl) (Nat.le_of_ble_eq_true rfl) rfl rfl dX1_readEntry_60 rfl (c_X8_takeNumber (lo := 0) (cnt := 24) hRK hT (by decide) (hh_lit 23 (by decide)) hp (fun e => absurd rfl e) (fun v q _ e => absurd (ePN.symm.trans e) (by intro q; cases q)) (fun k60 _ e60 => ?_))
          refine Kq_i (k' := 0) (sl' := 0) rfl rfl ?_
          have kk60 := pNum_k e60
          have kne60 := kd_ne kk60.1 kk60.2
          refine V_istore_n 64 [(2, .int 0), (0, rf G b), (1, rf G 1)] (by decide) rfl rfl dX1_readEntry_63 rfl ?_
          refine V_aload_n 65 2 rfl _ rfl rfl dX1_readEntry_64 rfl ?_
          refine V_iconst 66 (0) rfl dX1_readEntry_65 rfl ?_
          refine V_bipush 68 (99) rfl dX1_readEntry_66 rfl ?_
          refine V_callV (K' := 0) (S' := 0) 71 1 8 2 [.int 0, .int 99] mkX8_takeNumber lkX1_49 (by decide) rfl rfl (by decide) rfl (Nat.le_of_ble_eq_true rfl) (Nat.le_of_ble_eq_true rfl) (Nat.le_of_ble_eq_true rfl) (Nat.le_of_ble_eq_true rfl) rfl rfl dX1_readEntry_68 rfl (c_X8_takeNumber (lo := 0) (cnt := 100) hRK hT (by decide) (hh_lit 99 (by decide)) hp (fun _ => ?_) (fun _ _ e _ => absurd e kne60) (fun _ e _ => absurd e kne60))
          refine Kq_i (k' := 0) (sl' := 0) rfl rfl ?_
          refine V_istore_n 72 [(3, .int 0), (2, .int 0), (0, rf G b), (1, rf G 1)] (by decide) rfl rfl dX1_readEntry_71 rfl ?_
          refine V_aload_n 73 3 rfl _ rfl rfl dX1_readEntry_72 rfl ?_
          refine V_bipush 75 (59) rfl dX1_readEntry_73 rfl ?_
          refine V_callV (K' := 0) (S' := 0) 78 1 8 1 [.int 59] mkX8_takeSign lkX1_53 (by decide) rfl rfl (by decide) rfl (Nat.le_of_ble_eq_true rfl) (Nat.le_of_ble_eq_true rfl) (Nat.le_of_ble_eq_true rfl) (Nat.le_of_ble_eq_true rfl) rfl rfl dX1_readEntry_75 rfl (c_X8_takeSign (c := 59) hRK hT (by decide) (by decide) (by decide) hp (fun _ => ?_) (fun _ e _ => absurd e kne60) (fun e _ => absurd e kne60))
          refine Kq_v (k' := 0) (sl' := 0) rfl rfl ?_
          refine V_aload_n 79 3 rfl _ rfl rfl dX1_readEntry_78 rfl ?_
          refine V_callV (K' := 0) (S' := 0) 82 1 8 0 [] mkX8_isFaulty lkX1_28 (by decide) rfl rfl (by decide) rfl (Nat.le_of_ble_eq_true rfl) (Nat.le_of_ble_eq_true rfl) (Nat.le_of_ble_eq_true rfl) (Nat.le_of_ble_eq_true rfl) rfl rfl dX1_readEntry_79 rfl (c_X8_isFaulty (fun e => absurd e kne60) (fun _ => ?_))
          refine Kq_i (k' := 0) (sl' := 0) rfl rfl ?_
          refine V_if_ne 124 85 rfl dX1_readEntry_82 rfl (fun c82 => ?_) (fun c82 => absurd c82 (by decide))
          refine V_ret_v rfl (Nat.le_of_ble_eq_true rfl) (fun h => absurd h (by decide)) (Nat.le_of_ble_eq_true rfl) (hbd _ _ _ (bd_no e60) kk60.1 kk60.2 hp) dX1_readEntry_124
    · have ePN : pNum t z 0 24 p = .inr (nuF t z p, nx t z p) := by
        refine (if_pos cN).trans (if_pos ⟨Nat.zero_le _, ?_⟩)
        cases e : bk (nuF t z p) with
        | none => exact absurd e ct
        | some v => exact (hB.v e).1
      refine V_aload_n 1 1 rfl _ rfl rfl dX1_readEntry_0 rfl ?_
      refine V_callV (K' := 0) (S' := 0) 4 1 8 0 [] mkX8_isNumber lkX1_35 (by decide) rfl rfl (by decide) rfl (Nat.le_of_ble_eq_true rfl) (Nat.le_of_ble_eq_true rfl) (Nat.le_of_ble_eq_true rfl) (Nat.le_of_ble_eq_true rfl) rfl rfl dX1_readEntry_1 rfl (c_X8_isNumber hRK hT (fun _ => ?_) (fun q => absurd cN q))
      refine Kq_i (k' := 0) (sl' := 0) rfl rfl ?_
      refine V_if_eq 26 7 rfl dX1_readEntry_4 rfl (fun c4 => absurd c4 (by decide)) (fun c4 => ?_)
      refine V_aload_n 8 0 rfl _ rfl rfl dX1_readEntry_7 rfl ?_
      refine V_aload_n 9 1 rfl _ rfl rfl dX1_readEntry_8 rfl ?_
      refine V_getI 12 1 8 6 (nI (nuF t z p)) rfl flX1_38 rfl rfl rfl (by decide) dX1_readEntry_9 rfl ?_
      refine V_callV (K' := 0) (S' := 0) 15 b 1 1 [.int (nI (nuF t z p))] mkX1_isTold lkX1_41 (by decide) rfl (ly_b hb).1 (by omega) rfl (Nat.le_of_ble_eq_true rfl) (Nat.le_of_ble_eq_true rfl) (Nat.le_of_ble_eq_true rfl) (Nat.le_of_ble_eq_true rfl) rfl rfl dX1_readEntry_12 rfl (c_X1_isTold hRK hb hB1 (by omega) (fun _ => ?_) (fun q => absurd q ct))
      refine Kq_i (k' := 0) (sl' := 0) rfl rfl ?_
      refine V_if_eq 26 18 rfl dX1_readEntry_15 rfl (fun c15 => absurd c15 (by decide)) (fun c15 => ?_)
      refine V_aload_n 19 1 rfl _ rfl rfl dX1_readEntry_18 rfl ?_
      refine V_iconst 20 (2) rfl dX1_readEntry_19 rfl ?_
      refine V_callV (K' := 0) (S' := 0) 23 1 8 1 [.int 2] mkX8_fail lkX1_45 (by decide) rfl rfl (by decide) rfl (Nat.le_of_ble_eq_true rfl) (Nat.le_of_ble_eq_true rfl) (Nat.le_of_ble_eq_true rfl) (Nat.le_of_ble_eq_true rfl) rfl rfl dX1_readEntry_20 rfl (c_X8_fail (k := 2) hRK hT (fun e => absurd rfl e) (fun _ => ?_))
      refine Kq_v (k' := 0) (sl' := 0) rfl rfl ?_
      refine V_goto 56 rfl dX1_readEntry_23 ?_
      refine V_aload_n 57 1 rfl _ rfl rfl dX1_readEntry_56 rfl ?_
      refine V_iconst 58 (0) rfl dX1_readEntry_57 rfl ?_
      refine V_bipush 60 (23) rfl dX1_readEntry_58 rfl ?_
      refine V_callV (K' := 0) (S' := 0) 63 1 8 2 [.int 0, .int 23] mkX8_takeNumber lkX1_49 (by decide) rfl rfl (by decide) rfl (Nat.le_of_ble_eq_true rfl) (Nat.le_of_ble_eq_true rfl) (Nat.le_of_ble_eq_true rfl) (Nat.le_of_ble_eq_true rfl) rfl rfl dX1_readEntry_60 rfl (c_X8_takeNumber (lo := 0) (cnt := 24) hRK hT (by decide) (hh_lit 23 (by decide)) hp (fun _ => ?_) (fun _ _ e _ => absurd e (show ¬ (2 : Int32) = 0 by decide)) (fun _ e _ => absurd e (show ¬ (2 : Int32) = 0 by decide)))
      refine Kq_i (k' := 0) (sl' := 0) rfl rfl ?_
      refine V_istore_n 64 [(2, .int 0), (0, rf G b), (1, rf G 1)] (by decide) rfl rfl dX1_readEntry_63 rfl ?_
      refine V_aload_n 65 2 rfl _ rfl rfl dX1_readEntry_64 rfl ?_
      refine V_iconst 66 (0) rfl dX1_readEntry_65 rfl ?_
      refine V_bipush 68 (99) rfl dX1_readEntry_66 rfl ?_
      refine V_callV (K' := 0) (S' := 0) 71 1 8 2 [.int 0, .int 99] mkX8_takeNumber lkX1_49 (by decide) rfl rfl (by decide) rfl (Nat.le_of_ble_eq_true rfl) (Nat.le_of_ble_eq_true rfl) (Nat.le_of_ble_eq_true rfl) (Nat.le_of_ble_eq_true rfl) rfl rfl dX1_readEntry_68 rfl (c_X8_takeNumber (lo := 0) (cnt := 100) hRK hT (by decide) (hh_lit 99 (by decide)) hp (fun _ => ?_) (fun _ _ e _ => absurd e (show ¬ (2 : Int32) = 0 by decide)) (fun _ e _ => absurd e (show ¬ (2 : Int32) = 0 by decide)))
      refine Kq_i (k' := 0) (sl' := 0) rfl rfl ?_
      refine V_istore_n 72 [(3, .int 0), (2, .int 0), (0, rf G b), (1, rf G 1)] (by decide) rfl rfl dX1_readEntry_71 rfl ?_
      refine V_aload_n 73 3 rfl _ rfl rfl dX1_readEntry_72 rfl ?_
      refine V_bipush 75 (59) rfl dX1_readEntry_73 rfl ?_
      refine V_callV (K' := 0) (S' := 0) 78 1 8 1 [.int 59] mkX8_takeSign lkX1_53 (by decide) rfl rfl (by decide) rfl (Nat.le_of_ble_eq_true rfl) (Nat.le_of_ble_eq_true rfl) (Nat.le_of_ble_eq_true rfl) (Nat.le_of_ble_eq_true rfl) rfl rfl dX1_readEntry_75 rfl (c_X8_takeSign (c := 59) hRK hT (by decide) (by decide) (by decide) hp (fun _ => ?_) (fun _ e _ => absurd e (show ¬ (2 : Int32) = 0 by decide)) (fun e _ => absurd e (show ¬ (2 : Int32) = 0 by decide)))
      refine Kq_v (k' := 0) (sl' := 0) rfl rfl ?_
      refine V_aload_n 79 3 rfl _ rfl rfl dX1_readEntry_78 rfl ?_
      refine V_callV (K' := 0) (S' := 0) 82 1 8 0 [] mkX8_isFaulty lkX1_28 (by decide) rfl rfl (by decide) rfl (Nat.le_of_ble_eq_true rfl) (Nat.le_of_ble_eq_true rfl) (Nat.le_of_ble_eq_true rfl) (Nat.le_of_ble_eq_true rfl) rfl rfl dX1_readEntry_79 rfl (c_X8_isFaulty (fun e => absurd e (show ¬ (2 : Int32) = 0 by decide)) (fun _ => ?_))
      refine Kq_i (k' := 0) (sl' := 0) rfl rfl ?_
      refine V_if_ne 124 85 rfl dX1_readEntry_82 rfl (fun c82 => ?_) (fun c82 => absurd c82 (by decide))
      refine V_ret_v rfl (Nat.le_of_ble_eq_true rfl) (fun h => absurd h (by decide)) (Nat.le_of_ble_eq_true rfl) (hbd 2 _ _ ((bd_ok ePN).trans (if_pos ct)) (by decide) (by decide) hp) dX1_readEntry_124
  · have ePN : pNum t z 0 24 p = .inl (1, p) := if_neg cN
    by_cases c8 : n < 8
    · refine V_aload_n 1 1 rfl _ rfl rfl dX1_readEntry_0 rfl ?_
      refine V_callV (K' := 0) (S' := 0) 4 1 8 0 [] mkX8_isNumber lkX1_35 (by decide) rfl rfl (by decide) rfl (Nat.le_of_ble_eq_true rfl) (Nat.le_of_ble_eq_true rfl) (Nat.le_of_ble_eq_true rfl) (Nat.le_of_ble_eq_true rfl) rfl rfl dX1_readEntry_1 rfl (c_X8_isNumber hRK hT (fun q => absurd q cN) (fun _ => ?_))
      refine Kq_i (k' := 0) (sl' := 0) rfl rfl ?_
      refine V_if_eq 26 7 rfl dX1_readEntry_4 rfl (fun c4 => ?_) (fun c4 => absurd c4 (by decide))
      refine V_aload_n 27 0 rfl _ rfl rfl dX1_readEntry_26 rfl ?_
      refine V_getI 30 b 1 2 (nI n) (show tp t z _ _ _ _ b 2 = _ from by rw [tp_n (by omega)]; exact hB.2.1) flX1_18 rfl (ly_b hb).1 rfl (by omega) dX1_readEntry_27 rfl ?_
      refine V_bipush 32 (8) rfl dX1_readEntry_30 rfl ?_
      refine V_icmp_lt 56 35 rfl dX1_readEntry_32 rfl (fun c32 => ?_) (fun c32 => absurd (nI_lt (b := 8) c8 (by decide)) c32)
      refine V_aload_n 57 1 rfl _ rfl rfl dX1_readEntry_56 rfl ?_
      refine V_iconst 58 (0) rfl dX1_readEntry_57 rfl ?_
      refine V_bipush 60 (23) rfl dX1_readEntry_58 rfl ?_
      refine V_callV (K' := 0) (S' := 0) 63 1 8 2 [.int 0, .int 23] mkX8_takeNumber lkX1_49 (by decide) rfl rfl (by decide) rfl (Nat.le_of_ble_eq_true rfl) (Nat.le_of_ble_eq_true rfl) (Nat.le_of_ble_eq_true rfl) (Nat.le_of_ble_eq_true rfl) rfl rfl dX1_readEntry_60 rfl (c_X8_takeNumber (lo := 0) (cnt := 24) hRK hT (by decide) (hh_lit 23 (by decide)) hp (fun e => absurd rfl e) (fun v q _ e => absurd (ePN.symm.trans e) (by intro q; cases q)) (fun k60 _ e60 => ?_))
      refine Kq_i (k' := 0) (sl' := 0) rfl rfl ?_
      have kk60 := pNum_k e60
      have kne60 := kd_ne kk60.1 kk60.2
      refine V_istore_n 64 [(2, .int 0), (0, rf G b), (1, rf G 1)] (by decide) rfl rfl dX1_readEntry_63 rfl ?_
      refine V_aload_n 65 2 rfl _ rfl rfl dX1_readEntry_64 rfl ?_
      refine V_iconst 66 (0) rfl dX1_readEntry_65 rfl ?_
      refine V_bipush 68 (99) rfl dX1_readEntry_66 rfl ?_
      refine V_callV (K' := 0) (S' := 0) 71 1 8 2 [.int 0, .int 99] mkX8_takeNumber lkX1_49 (by decide) rfl rfl (by decide) rfl (Nat.le_of_ble_eq_true rfl) (Nat.le_of_ble_eq_true rfl) (Nat.le_of_ble_eq_true rfl) (Nat.le_of_ble_eq_true rfl) rfl rfl dX1_readEntry_68 rfl (c_X8_takeNumber (lo := 0) (cnt := 100) hRK hT (by decide) (hh_lit 99 (by decide)) hp (fun _ => ?_) (fun _ _ e _ => absurd e kne60) (fun _ e _ => absurd e kne60))
      refine Kq_i (k' := 0) (sl' := 0) rfl rfl ?_
      refine V_istore_n 72 [(3, .int 0), (2, .int 0), (0, rf G b), (1, rf G 1)] (by decide) rfl rfl dX1_readEntry_71 rfl ?_
      refine V_aload_n 73 3 rfl _ rfl rfl dX1_readEntry_72 rfl ?_
      refine V_bipush 75 (59) rfl dX1_readEntry_73 rfl ?_
      refine V_callV (K' := 0) (S' := 0) 78 1 8 1 [.int 59] mkX8_takeSign lkX1_53 (by decide) rfl rfl (by decide) rfl (Nat.le_of_ble_eq_true rfl) (Nat.le_of_ble_eq_true rfl) (Nat.le_of_ble_eq_true rfl) (Nat.le_of_ble_eq_true rfl) rfl rfl dX1_readEntry_75 rfl (c_X8_takeSign (c := 59) hRK hT (by decide) (by decide) (by decide) hp (fun _ => ?_) (fun _ e _ => absurd e kne60) (fun e _ => absurd e kne60))
      refine Kq_v (k' := 0) (sl' := 0) rfl rfl ?_
      refine V_aload_n 79 3 rfl _ rfl rfl dX1_readEntry_78 rfl ?_
      refine V_callV (K' := 0) (S' := 0) 82 1 8 0 [] mkX8_isFaulty lkX1_28 (by decide) rfl rfl (by decide) rfl (Nat.le_of_ble_eq_true rfl) (Nat.le_of_ble_eq_true rfl) (Nat.le_of_ble_eq_true rfl) (Nat.le_of_ble_eq_true rfl) rfl rfl dX1_readEntry_79 rfl (c_X8_isFaulty (fun e => absurd e kne60) (fun _ => ?_))
      refine Kq_i (k' := 0) (sl' := 0) rfl rfl ?_
      refine V_if_ne 124 85 rfl dX1_readEntry_82 rfl (fun c82 => ?_) (fun c82 => absurd c82 (by decide))
      refine V_ret_v rfl (Nat.le_of_ble_eq_true rfl) (fun h => absurd h (by decide)) (Nat.le_of_ble_eq_true rfl) (hbd _ _ _ (bd_no e60) kk60.1 kk60.2 hp) dX1_readEntry_124
    · refine V_aload_n 1 1 rfl _ rfl rfl dX1_readEntry_0 rfl ?_
      refine V_callV (K' := 0) (S' := 0) 4 1 8 0 [] mkX8_isNumber lkX1_35 (by decide) rfl rfl (by decide) rfl (Nat.le_of_ble_eq_true rfl) (Nat.le_of_ble_eq_true rfl) (Nat.le_of_ble_eq_true rfl) (Nat.le_of_ble_eq_true rfl) rfl rfl dX1_readEntry_1 rfl (c_X8_isNumber hRK hT (fun q => absurd q cN) (fun _ => ?_))
      refine Kq_i (k' := 0) (sl' := 0) rfl rfl ?_
      refine V_if_eq 26 7 rfl dX1_readEntry_4 rfl (fun c4 => ?_) (fun c4 => absurd c4 (by decide))
      refine V_aload_n 27 0 rfl _ rfl rfl dX1_readEntry_26 rfl ?_
      refine V_getI 30 b 1 2 (nI n) (show tp t z _ _ _ _ b 2 = _ from by rw [tp_n (by omega)]; exact hB.2.1) flX1_18 rfl (ly_b hb).1 rfl (by omega) dX1_readEntry_27 rfl ?_
      refine V_bipush 32 (8) rfl dX1_readEntry_30 rfl ?_
      refine V_icmp_lt 56 35 rfl dX1_readEntry_32 rfl (fun c32 => absurd c32 (nI_nlt (b := 8) (by omega) (by omega))) (fun c32 => ?_)
      refine V_aload_n 36 1 rfl _ rfl rfl dX1_readEntry_35 rfl ?_
      refine V_callV (K' := 0) (S' := 0) 39 1 8 0 [] mkX8_isNumber lkX1_35 (by decide) rfl rfl (by decide) rfl (Nat.le_of_ble_eq_true rfl) (Nat.le_of_ble_eq_true rfl) (Nat.le_of_ble_eq_true rfl) (Nat.le_of_ble_eq_true rfl) rfl rfl dX1_readEntry_36 rfl (c_X8_isNumber hRK hT (fun q => absurd q cN) (fun _ => ?_))
      refine Kq_i (k' := 0) (sl' := 0) rfl rfl ?_
      refine V_if_eq 56 42 rfl dX1_readEntry_39 rfl (fun c39 => ?_) (fun c39 => absurd c39 (by decide))
      refine V_aload_n 57 1 rfl _ rfl rfl dX1_readEntry_56 rfl ?_
      refine V_iconst 58 (0) rfl dX1_readEntry_57 rfl ?_
      refine V_bipush 60 (23) rfl dX1_readEntry_58 rfl ?_
      refine V_callV (K' := 0) (S' := 0) 63 1 8 2 [.int 0, .int 23] mkX8_takeNumber lkX1_49 (by decide) rfl rfl (by decide) rfl (Nat.le_of_ble_eq_true rfl) (Nat.le_of_ble_eq_true rfl) (Nat.le_of_ble_eq_true rfl) (Nat.le_of_ble_eq_true rfl) rfl rfl dX1_readEntry_60 rfl (c_X8_takeNumber (lo := 0) (cnt := 24) hRK hT (by decide) (hh_lit 23 (by decide)) hp (fun e => absurd rfl e) (fun v q _ e => absurd (ePN.symm.trans e) (by intro q; cases q)) (fun k60 _ e60 => ?_))
      refine Kq_i (k' := 0) (sl' := 0) rfl rfl ?_
      have kk60 := pNum_k e60
      have kne60 := kd_ne kk60.1 kk60.2
      refine V_istore_n 64 [(2, .int 0), (0, rf G b), (1, rf G 1)] (by decide) rfl rfl dX1_readEntry_63 rfl ?_
      refine V_aload_n 65 2 rfl _ rfl rfl dX1_readEntry_64 rfl ?_
      refine V_iconst 66 (0) rfl dX1_readEntry_65 rfl ?_
      refine V_bipush 68 (99) rfl dX1_readEntry_66 rfl ?_
      refine V_callV (K' := 0) (S' := 0) 71 1 8 2 [.int 0, .int 99] mkX8_takeNumber lkX1_49 (by decide) rfl rfl (by decide) rfl (Nat.le_of_ble_eq_true rfl) (Nat.le_of_ble_eq_true rfl) (Nat.le_of_ble_eq_true rfl) (Nat.le_of_ble_eq_true rfl) rfl rfl dX1_readEntry_68 rfl (c_X8_takeNumber (lo := 0) (cnt := 100) hRK hT (by decide) (hh_lit 99 (by decide)) hp (fun _ => ?_) (fun _ _ e _ => absurd e kne60) (fun _ e _ => absurd e kne60))
      refine Kq_i (k' := 0) (sl' := 0) rfl rfl ?_
      refine V_istore_n 72 [(3, .int 0), (2, .int 0), (0, rf G b), (1, rf G 1)] (by decide) rfl rfl dX1_readEntry_71 rfl ?_
      refine V_aload_n 73 3 rfl _ rfl rfl dX1_readEntry_72 rfl ?_
      refine V_bipush 75 (59) rfl dX1_readEntry_73 rfl ?_
      refine V_callV (K' := 0) (S' := 0) 78 1 8 1 [.int 59] mkX8_takeSign lkX1_53 (by decide) rfl rfl (by decide) rfl (Nat.le_of_ble_eq_true rfl) (Nat.le_of_ble_eq_true rfl) (Nat.le_of_ble_eq_true rfl) (Nat.le_of_ble_eq_true rfl) rfl rfl dX1_readEntry_75 rfl (c_X8_takeSign (c := 59) hRK hT (by decide) (by decide) (by decide) hp (fun _ => ?_) (fun _ e _ => absurd e kne60) (fun e _ => absurd e kne60))
      refine Kq_v (k' := 0) (sl' := 0) rfl rfl ?_
      refine V_aload_n 79 3 rfl _ rfl rfl dX1_readEntry_78 rfl ?_
      refine V_callV (K' := 0) (S' := 0) 82 1 8 0 [] mkX8_isFaulty lkX1_28 (by decide) rfl rfl (by decide) rfl (Nat.le_of_ble_eq_true rfl) (Nat.le_of_ble_eq_true rfl) (Nat.le_of_ble_eq_true rfl) (Nat.le_of_ble_eq_true rfl) rfl rfl dX1_readEntry_79 rfl (c_X8_isFaulty (fun e => absurd e kne60) (fun _ => ?_))
      refine Kq_i (k' := 0) (sl' := 0) rfl rfl ?_
      refine V_if_ne 124 85 rfl dX1_readEntry_82 rfl (fun c82 => ?_) (fun c82 => absurd c82 (by decide))
      refine V_ret_v rfl (Nat.le_of_ble_eq_true rfl) (fun h => absurd h (by decide)) (Nat.le_of_ble_eq_true rfl) (hbd _ _ _ (bd_no e60) kk60.1 kk60.2 hp) dX1_readEntry_124
