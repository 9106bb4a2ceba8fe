/-! ===== the reference: a unit of a LAW ===== -/
set_option maxHeartbeats 8000000 in
theorem c_X11_readTwo6 {G : Gx} {d : Nat} {I : FI} {R : FR} {J : FJ} {Q : Po} {p y : Nat} {k c : Int32} (hp : p < 2 ^ 31) (hq : Q (.inl none) 103 (lx (ox I 6) p (nI p) 3) R J) {t : Nat → Nat} {z : Nat} (hRM : ∀ k, R 69 k = refM k) (hT : TxM I t z) (hpz : p ≤ z) : Cc G mX11_readTwo (d + 10) 0 0 [rf G 69, .int (nI y), .int c] 103 (lx (ox I 6) p (-1) k) R J Q := by
  have nb : ¬ nI p = -1 := nI_ne hp
  show V _ _ _ _ _ _ _ _ [(0, rf G 69), (1, .int (nI y)), (2, .int c)] [] _ _ _ _ _
  refine V_aload_n 1 0 rfl _ rfl rfl dX11_readTwo_0 rfl ?_
  refine V_iload_n 2 1 rfl rfl dX11_readTwo_1 rfl ?_
  refine V_callV (K' := 0) (S' := 0) 5 69 11 1 [.int (nI y)] mkX11_opensOne lkX11_261 (by decide) rfl rfl (by decide) rfl (Nat.le_of_ble_eq_true rfl) (Nat.le_of_ble_eq_true rfl) (Nat.le_of_ble_eq_true rfl) (Nat.le_of_ble_eq_true rfl) rfl rfl dX11_readTwo_2 rfl (c_X11_opensOne6 rfl hp ?_)
  refine Kq_v (k' := 0) (sl' := 0) rfl rfl ?_
  refine V_aload_n 6 0 rfl _ rfl rfl dX11_readTwo_5 rfl ?_
  refine V_bipush 8 (91) rfl dX11_readTwo_6 rfl ?_
  refine V_callV (K' := 0) (S' := 0) 11 69 11 1 [.int 91] mkX11_sign lkX11_242 (by decide) rfl rfl (by decide) rfl (Nat.le_of_ble_eq_true rfl) (Nat.le_of_ble_eq_true rfl) (Nat.le_of_ble_eq_true rfl) (Nat.le_of_ble_eq_true rfl) rfl rfl dX11_readTwo_8 rfl (c_X11_sign (c := 91) hRM (TxM.ox (o := 7) hT) (by decide) (by decide) hpz (fun _ => ?_) (fun e _ _ => absurd e nb) (fun e _ => absurd e nb))
  refine Kq_v (k' := 0) (sl' := 0) rfl rfl ?_
  refine V_aload_n 12 0 rfl _ rfl rfl dX11_readTwo_11 rfl ?_
  refine V_callV (K' := 0) (S' := 0) 15 69 11 0 [] mkX11_readSum lkX11_264 (by decide) rfl rfl (by decide) rfl (Nat.le_of_ble_eq_true rfl) (Nat.le_of_ble_eq_true rfl) (Nat.le_of_ble_eq_true rfl) (Nat.le_of_ble_eq_true rfl) rfl rfl dX11_readTwo_12 rfl (c_X11_readSumF nb ?_)
  refine Kq_v (k' := 0) (sl' := 0) rfl rfl ?_
  refine V_aload_n 16 0 rfl _ rfl rfl dX11_readTwo_15 rfl ?_
  refine V_bipush 18 (44) rfl dX11_readTwo_16 rfl ?_
  refine V_callV (K' := 0) (S' := 0) 21 69 11 1 [.int 44] mkX11_sign lkX11_242 (by decide) rfl rfl (by decide) rfl (Nat.le_of_ble_eq_true rfl) (Nat.le_of_ble_eq_true rfl) (Nat.le_of_ble_eq_true rfl) (Nat.le_of_ble_eq_true rfl) rfl rfl dX11_readTwo_18 rfl (c_X11_sign (c := 44) hRM (TxM.ox (o := 7) hT) (by decide) (by decide) hpz (fun _ => ?_) (fun e _ _ => absurd e nb) (fun e _ => absurd e nb))
  refine Kq_v (k' := 0) (sl' := 0) rfl rfl ?_
  refine V_aload_n 22 0 rfl _ rfl rfl dX11_readTwo_21 rfl ?_
  refine V_callV (K' := 0) (S' := 0) 25 69 11 0 [] mkX11_readSum lkX11_264 (by decide) rfl rfl (by decide) rfl (Nat.le_of_ble_eq_true rfl) (Nat.le_of_ble_eq_true rfl) (Nat.le_of_ble_eq_true rfl) (Nat.le_of_ble_eq_true rfl) rfl rfl dX11_readTwo_22 rfl (c_X11_readSumF nb ?_)
  refine Kq_v (k' := 0) (sl' := 0) rfl rfl ?_
  refine V_aload_n 26 0 rfl _ rfl rfl dX11_readTwo_25 rfl ?_
  refine V_bipush 28 (93) rfl dX11_readTwo_26 rfl ?_
  refine V_callV (K' := 0) (S' := 0) 31 69 11 1 [.int 93] mkX11_sign lkX11_242 (by decide) rfl rfl (by decide) rfl (Nat.le_of_ble_eq_true rfl) (Nat.le_of_ble_eq_true rfl) (Nat.le_of_ble_eq_true rfl) (Nat.le_of_ble_eq_true rfl) rfl rfl dX11_readTwo_28 rfl (c_X11_sign (c := 93) hRM (TxM.ox (o := 7) hT) (by decide) (by decide) hpz (fun _ => ?_) (fun e _ _ => absurd e nb) (fun e _ => absurd e nb))
  refine Kq_v (k' := 0) (sl' := 0) rfl rfl ?_
  refine V_aload_n 32 0 rfl _ rfl rfl dX11_readTwo_31 rfl ?_
  refine V_dup 33 rfl dX11_readTwo_32 rfl ?_
  refine V_getI 36 69 11 7 (nI 7) (show lx _ _ _ _ 69 7 = _ from by rw [lx_69 (by decide) (by decide) (by decide)]; exact ox_7) flX11_163 rfl rfl rfl (by decide) dX11_readTwo_33 rfl ?_
  refine V_iconst 37 (1) rfl dX11_readTwo_36 rfl ?_
  refine V_isub 38 dX11_readTwo_37 rfl ?_
  refine V_rw (show _ = nI 6 from by decide) ?_
  refine V_putI 41 69 11 7 flX11_163 rfl rfl rfl (by decide) rfl dX11_readTwo_38 rfl ?_
  rw [lx_up (fun _ => by decide), ox_ox]
  refine V_aload_n 42 0 rfl _ rfl rfl dX11_readTwo_41 rfl ?_
  refine V_iload_n 43 2 rfl rfl dX11_readTwo_42 rfl ?_
  refine V_iconst 44 (0) rfl dX11_readTwo_43 rfl ?_
  refine V_callV (K' := 0) (S' := 0) 47 69 11 2 [.int c, .int 0] mkX11_emit lkX11_255 (by decide) rfl rfl (by decide) rfl (Nat.le_of_ble_eq_true rfl) (Nat.le_of_ble_eq_true rfl) (Nat.le_of_ble_eq_true rfl) (Nat.le_of_ble_eq_true rfl) rfl rfl dX11_readTwo_44 rfl (c_X11_emitF nb ?_)
  refine Kq_v (k' := 0) (sl' := 0) rfl rfl ?_
  refine V_ret_v rfl (Nat.le_of_ble_eq_true rfl) (fun h => absurd h (by decide)) (Nat.le_of_ble_eq_true rfl) (hq) dX11_readTwo_47
theorem ft_word {t : Nat → Nat} {z p ft : Nat} (hp : p ≤ z) (h : ftF t z p = some ft) : sc le_ t z p = enF t z p := by
  unfold ftF at h
  by_cases c1 : wcF t z p = ocF 7
  · exact (en_wd hp (wdo 7 (by decide) (by decide) (by decide)) c1).1
  by_cases c2 : wcF t z p = ocF 8
  · exact (en_wd hp (wdo 8 (by decide) (by decide) (by decide)) c2).1
  by_cases c3 : wcF t z p = ocF 9
  · exact (en_wd hp (wdo 9 (by decide) (by decide) (by decide)) c3).1
  by_cases c4 : wcF t z p = ocF 10
  · exact (en_wd hp (wdo 10 (by decide) (by decide) (by decide)) c4).1
  by_cases c5 : wcF t z p = ocF 11
  · exact (en_wd hp (wdo 11 (by decide) (by decide) (by decide)) c5).1
  by_cases c6 : wcF t z p = ocF 12
  · exact (en_wd hp (wdo 12 (by decide) (by decide) (by decide)) c6).1
  by_cases c7 : wcF t z p = ocF 13
  · exact (en_wd hp (wdo 13 (by decide) (by decide) (by decide)) c7).1
  by_cases c8 : wcF t z p = ocF 14
  · exact (en_wd hp (wdo 14 (by decide) (by decide) (by decide)) c8).1
  rw [if_neg c1, if_neg c2, if_neg c3, if_neg c4, if_neg c5, if_neg c6, if_neg c7, if_neg c8] at h
  cases h
set_option maxHeartbeats 8000000 in
theorem c_X11_readUnit0 {G : Gx} {t : Nat → Nat} {z D0 : Nat}  : LMt G mX11_readUnit (D0 + 20) (6) [] t z (pUnit t z 0) := by
  intro d I R J Q a n k hd hRM hT h150 ha hn hNB hk hb
  obtain ⟨m, rfl⟩ : ∃ m, d = m + 20 := ⟨d - 20, by omega⟩
  have h6 := hT.2.1
  obtain ⟨hs1, hs2, hs3⟩ := sk_z (t := t) ha
  have esk := sk_sk (t := t) ha
  obtain ⟨p, ep⟩ : ∃ p, p = sk t z a := ⟨_, rfl⟩
  rw [← ep] at hn hk hb hs1 hs2 esk
  obtain ⟨n1, n2, n3⟩ := nx_z (t := t) hs2
  have nxe : nx t z p = sk t z (enF t z p) := rfl
  obtain ⟨o5, o6, -⟩ := oc_f
  show V _ _ _ _ _ _ _ _ [(0, rf G 69)] [] _ _ _ _ _
  by_cases c40 : p < z ∧ t p = 40
  · have nd : ¬ (p < z ∧ dg (t p) = true) := fun q => by have := dg_iff.mp q.2; omega
    have en : sk t z (p + 1) = nx t z p := by unfold nx enF; rw [if_neg (by omega), c40.2, if_neg (by decide), if_neg (by decide)]
    have nb : ¬ nI p = -1 := nI_ne (by omega)
    refine V_aload_n 1 0 rfl _ rfl rfl dX11_readUnit_0 rfl ?_
    refine V_callV (K' := 0) (S' := 0) 4 69 11 0 [] mkX11_fine lkX11_152 (by decide) rfl rfl (by decide) rfl (Nat.le_of_ble_eq_true rfl) (Nat.le_of_ble_eq_true rfl) (Nat.le_of_ble_eq_true rfl) (Nat.le_of_ble_eq_true rfl) rfl rfl dX11_readUnit_1 rfl (c_X11_fine (fun _ => ?_) (fun e => absurd rfl e))
    refine Kq_i (k' := 0) (sl' := 0) rfl rfl ?_
    refine V_if_ne 8 7 rfl dX11_readUnit_4 rfl (fun c4 => ?_) (fun c4 => absurd c4 (by decide))
    refine V_aload_n 9 0 rfl _ rfl rfl dX11_readUnit_8 rfl ?_
    refine V_callV (K' := 0) (S' := 0) 12 69 11 0 [] mkX11_here lkX11_135 (by decide) rfl rfl (by decide) rfl (Nat.le_of_ble_eq_true rfl) (Nat.le_of_ble_eq_true rfl) (Nat.le_of_ble_eq_true rfl) (Nat.le_of_ble_eq_true rfl) rfl rfl dX11_readUnit_9 rfl (c_X11_here hRM (TxM.ox (o := 6) hT) ha ?_)
    rw [← ep]
    rw [if_pos c40.1, c40.2, show nI 40 = (40 : Int32) from rfl]
    refine Kq_i (k' := 0) (sl' := 0) rfl rfl ?_
    refine V_bipush 14 (40) rfl dX11_readUnit_12 rfl ?_
    refine V_icmp_ne 45 17 rfl dX11_readUnit_14 rfl (fun c14 => absurd c14 (by decide)) (fun c14 => ?_)
    refine V_aload_n 18 0 rfl _ rfl rfl dX11_readUnit_17 rfl ?_
    refine V_iconst 19 (1) rfl dX11_readUnit_18 rfl ?_
    refine V_callV (K' := 0) (S' := 0) 22 69 11 1 [.int 1] mkX11_opensOne lkX11_261 (by decide) rfl rfl (by decide) rfl (Nat.le_of_ble_eq_true rfl) (Nat.le_of_ble_eq_true rfl) (Nat.le_of_ble_eq_true rfl) (Nat.le_of_ble_eq_true rfl) rfl rfl dX11_readUnit_19 rfl (c_X11_opensOne6 (y := 1) rfl (by omega) ?_)
    refine Kq_v (k' := 0) (sl' := 0) rfl rfl ?_
    refine V_aload_n 23 0 rfl _ rfl rfl dX11_readUnit_22 rfl ?_
    refine V_callV (K' := 0) (S' := 0) 26 69 11 0 [] mkX11_readSum lkX11_264 (by decide) rfl rfl (by decide) rfl (Nat.le_of_ble_eq_true rfl) (Nat.le_of_ble_eq_true rfl) (Nat.le_of_ble_eq_true rfl) (Nat.le_of_ble_eq_true rfl) rfl rfl dX11_readUnit_23 rfl (c_X11_readSumF nb ?_)
    refine Kq_v (k' := 0) (sl' := 0) rfl rfl ?_
    refine V_aload_n 27 0 rfl _ rfl rfl dX11_readUnit_26 rfl ?_
    refine V_bipush 29 (41) rfl dX11_readUnit_27 rfl ?_
    refine V_callV (K' := 0) (S' := 0) 32 69 11 1 [.int 41] mkX11_sign lkX11_242 (by decide) rfl rfl (by decide) rfl (Nat.le_of_ble_eq_true rfl) (Nat.le_of_ble_eq_true rfl) (Nat.le_of_ble_eq_true rfl) (Nat.le_of_ble_eq_true rfl) rfl rfl dX11_readUnit_29 rfl (c_X11_sign (c := 41) hRM (TxM.ox (o := 7) hT) (by decide) (by decide) hs2 (fun _ => ?_) (fun e _ _ => absurd e nb) (fun e _ => absurd e nb))
    refine Kq_v (k' := 0) (sl' := 0) rfl rfl ?_
    refine V_aload_n 33 0 rfl _ rfl rfl dX11_readUnit_32 rfl ?_
    refine V_dup 34 rfl dX11_readUnit_33 rfl ?_
    refine V_getI 37 69 11 7 (nI 7) (show lx _ _ _ _ 69 7 = _ from by rw [lx_69 (by decide) (by decide) (by decide)]; exact ox_7) flX11_163 rfl rfl rfl (by decide) dX11_readUnit_34 rfl ?_
    refine V_iconst 38 (1) rfl dX11_readUnit_37 rfl ?_
    refine V_isub 39 dX11_readUnit_38 rfl ?_
    refine V_rw (show _ = nI 6 from by decide) ?_
    refine V_putI 42 69 11 7 flX11_163 rfl rfl rfl (by decide) rfl dX11_readUnit_39 rfl ?_
    rw [lx_up (fun _ => by decide), ox_ox]
    refine V_goto 154 rfl dX11_readUnit_42 ?_
    refine V_ret_v rfl (Nat.le_of_ble_eq_true rfl) (fun h => absurd h (by decide)) (Nat.le_of_ble_eq_true rfl) (hb 3 p I p ((if_neg nd).trans (if_pos (Or.inr (Or.inr c40)))) (by decide) (by decide) hs2 hs2 FrN.rf) dX11_readUnit_154
  · by_cases cd : p < z ∧ dg (t p) = true
    · have cz := cd.1
      refine V_aload_n 1 0 rfl _ rfl rfl dX11_readUnit_0 rfl ?_
      refine V_callV (K' := 0) (S' := 0) 4 69 11 0 [] mkX11_fine lkX11_152 (by decide) rfl rfl (by decide) rfl (Nat.le_of_ble_eq_true rfl) (Nat.le_of_ble_eq_true rfl) (Nat.le_of_ble_eq_true rfl) (Nat.le_of_ble_eq_true rfl) rfl rfl dX11_readUnit_1 rfl (c_X11_fine (fun _ => ?_) (fun e => absurd rfl e))
      refine Kq_i (k' := 0) (sl' := 0) rfl rfl ?_
      refine V_if_ne 8 7 rfl dX11_readUnit_4 rfl (fun c4 => ?_) (fun c4 => absurd c4 (by decide))
      refine V_aload_n 9 0 rfl _ rfl rfl dX11_readUnit_8 rfl ?_
      refine V_callV (K' := 0) (S' := 0) 12 69 11 0 [] mkX11_here lkX11_135 (by decide) rfl rfl (by decide) rfl (Nat.le_of_ble_eq_true rfl) (Nat.le_of_ble_eq_true rfl) (Nat.le_of_ble_eq_true rfl) (Nat.le_of_ble_eq_true rfl) rfl rfl dX11_readUnit_9 rfl (c_X11_here hRM (TxM.ox (o := 6) hT) ha ?_)
      rw [← ep]
      rw [if_pos cz]
      refine Kq_i (k' := 0) (sl' := 0) rfl rfl ?_
      refine V_bipush 14 (40) rfl dX11_readUnit_12 rfl ?_
      refine V_icmp_ne 45 17 rfl dX11_readUnit_14 rfl (fun c14 => ?_) (fun c14 => absurd ((nI_eq (b := 40) (by have := hT.2.2.2 p; omega) (by decide)).mp c14) (fun e => c40 ⟨cz, e⟩))
      refine V_aload_n 46 0 rfl _ rfl rfl dX11_readUnit_45 rfl ?_
      refine V_callV (K' := 0) (S' := 0) 49 69 11 0 [] mkX11_here lkX11_135 (by decide) rfl rfl (by decide) rfl (Nat.le_of_ble_eq_true rfl) (Nat.le_of_ble_eq_true rfl) (Nat.le_of_ble_eq_true rfl) (Nat.le_of_ble_eq_true rfl) rfl rfl dX11_readUnit_46 rfl (c_X11_here hRM (TxM.ox (o := 6) hT) hs2 ?_)
      rw [esk]
      rw [if_pos cz]
      refine Kq_i (k' := 0) (sl' := 0) rfl rfl ?_
      refine V_callS (K' := 0) (S' := 0) 52 1 [.int (nI (t p))] mkX11_isDigit lkX11_156 rfl (Nat.le_of_ble_eq_true rfl) (Nat.le_of_ble_eq_true rfl) (Nat.le_of_ble_eq_true rfl) (Nat.le_of_ble_eq_true rfl) rfl rfl dX11_readUnit_49 rfl (c_X11_isDigit (fun e3 e4 => ?_) (fun e3 => absurd ⟨nI_le (a := 48) (dg_iff.mp cd.2).1 (by have := hT.2.2.2 p; omega), nI_le (b := 57) (dg_iff.mp cd.2).2 (by omega)⟩ e3))
      refine Kq_i (k' := 0) (sl' := 0) rfl rfl ?_
      refine V_if_eq 71 55 rfl dX11_readUnit_52 rfl (fun c52 => absurd c52 (by decide)) (fun c52 => ?_)
      refine V_aload_n 56 0 rfl _ rfl rfl dX11_readUnit_55 rfl ?_
      refine V_iconst 57 (0) rfl dX11_readUnit_56 rfl ?_
      refine V_aload_n 58 0 rfl _ rfl rfl dX11_readUnit_57 rfl ?_
      refine V_iconst 59 (0) rfl dX11_readUnit_58 rfl ?_
      refine V_sipush 62 (999) rfl dX11_readUnit_59 rfl ?_
      refine V_callV (K' := 0) (S' := 0) 65 69 11 2 [.int 0, .int 999] mkX11_readNumber lkX11_212 (by decide) rfl rfl (by decide) rfl (Nat.le_of_ble_eq_true rfl) (Nat.le_of_ble_eq_true rfl) (Nat.le_of_ble_eq_true rfl) (Nat.le_of_ble_eq_true rfl) rfl rfl dX11_readUnit_62 rfl (c_X11_readNumber (lo := 0) (cnt := 1000) hRM (TxM.ox (o := 6) hT) (by decide) (by decide) (hh_lit 999 (by decide)) hs2 (fun e => absurd rfl e) (fun v62 _ e62 => ?_) (fun k62 a62 ha62 _ e62 => ?_))
      · rw [esk] at e62 ⊢
        refine Kq_i (k' := 0) (sl' := 0) rfl rfl ?_
        obtain ⟨-, -, lo62, hi62, -, -, lt62, hz62⟩ := pNum_ok e62
        have hj65 := em_c (v := v62) hNB (by omega)
        refine V_callV (K' := 0) (S' := 0) 68 69 11 2 [.int 0, .int (nI v62)] mkX11_emit lkX11_255 (by decide) rfl rfl (by decide) rfl (Nat.le_of_ble_eq_true rfl) (Nat.le_of_ble_eq_true rfl) (Nat.le_of_ble_eq_true rfl) (Nat.le_of_ble_eq_true rfl) rfl rfl dX11_readUnit_65 rfl (c_X11_emit hRM hNB.1 (by omega) ?_)
        refine Kq_v (k' := 0) (sl' := 0) rfl rfl ?_
        refine V_goto 154 rfl dX11_readUnit_68 ?_
        refine V_ret_v rfl (Nat.le_of_ble_eq_true rfl) (fun h => absurd h (by decide)) (Nat.le_of_ble_eq_true rfl) (hk _ _ _ _ _ ((if_pos cd).trans (bd_ok e62)) lt62 hz62 (enF_z hs2).2.1 rfl (by omega) (by omega) hj65.1 hj65.2 em_ex em_fr) dX11_readUnit_154
      · rw [esk] at e62 ⊢
        refine Kq_i (k' := 0) (sl' := 0) rfl rfl ?_
        have kk62 := pNum_k e62
        have nb62 : ¬ nI p = -1 := nI_ne (by omega)
        refine V_callV (K' := 0) (S' := 0) 68 69 11 2 [.int 0, .int 0] mkX11_emit lkX11_255 (by decide) rfl rfl (by decide) rfl (Nat.le_of_ble_eq_true rfl) (Nat.le_of_ble_eq_true rfl) (Nat.le_of_ble_eq_true rfl) (Nat.le_of_ble_eq_true rfl) rfl rfl dX11_readUnit_65 rfl (c_X11_emitF nb62 ?_)
        refine Kq_v (k' := 0) (sl' := 0) rfl rfl ?_
        refine V_goto 154 rfl dX11_readUnit_68 ?_
        refine V_ret_v rfl (Nat.le_of_ble_eq_true rfl) (fun h => absurd h (by decide)) (Nat.le_of_ble_eq_true rfl) (hb _ _ _ _ ((if_pos cd).trans (bd_no e62)) kk62.1 kk62.2 hs2 ha62 FrN.rf) dX11_readUnit_154
    · by_cases cw : wcF t z p = ocF 5 ∨ wcF t z p = ocF 6
      · have hw : p < z ∧ sc le_ t z p = enF t z p := cw.elim (fun q => (en_wd hs2 (wdo 5 (by decide) (by decide) (by decide)) q).symm) (fun q => (en_wd hs2 (wdo 6 (by decide) (by decide) (by decide)) q).symm)
        have cz := hw.1
        by_cases w5 : wcF t z p = ocF 5
        · have hy : p + 5 = enF t z p := by have q := ((wc_iff hs2 (wdo 5 (by decide) (by decide) (by decide))).mp w5).1; rw [show stL 5 = 5 from rfl] at q; omega
          refine V_aload_n 1 0 rfl _ rfl rfl dX11_readUnit_0 rfl ?_
          refine V_callV (K' := 0) (S' := 0) 4 69 11 0 [] mkX11_fine lkX11_152 (by decide) rfl rfl (by decide) rfl (Nat.le_of_ble_eq_true rfl) (Nat.le_of_ble_eq_true rfl) (Nat.le_of_ble_eq_true rfl) (Nat.le_of_ble_eq_true rfl) rfl rfl dX11_readUnit_1 rfl (c_X11_fine (fun _ => ?_) (fun e => absurd rfl e))
          refine Kq_i (k' := 0) (sl' := 0) rfl rfl ?_
          refine V_if_ne 8 7 rfl dX11_readUnit_4 rfl (fun c4 => ?_) (fun c4 => absurd c4 (by decide))
          refine V_aload_n 9 0 rfl _ rfl rfl dX11_readUnit_8 rfl ?_
          refine V_callV (K' := 0) (S' := 0) 12 69 11 0 [] mkX11_here lkX11_135 (by decide) rfl rfl (by decide) rfl (Nat.le_of_ble_eq_true rfl) (Nat.le_of_ble_eq_true rfl) (Nat.le_of_ble_eq_true rfl) (Nat.le_of_ble_eq_true rfl) rfl rfl dX11_readUnit_9 rfl (c_X11_here hRM (TxM.ox (o := 6) hT) ha ?_)
          rw [← ep]
          rw [if_pos cz]
          refine Kq_i (k' := 0) (sl' := 0) rfl rfl ?_
          refine V_bipush 14 (40) rfl dX11_readUnit_12 rfl ?_
          refine V_icmp_ne 45 17 rfl dX11_readUnit_14 rfl (fun c14 => ?_) (fun c14 => absurd ((nI_eq (b := 40) (by have := hT.2.2.2 p; omega) (by decide)).mp c14) (fun e => c40 ⟨cz, e⟩))
          refine V_aload_n 46 0 rfl _ rfl rfl dX11_readUnit_45 rfl ?_
          refine V_callV (K' := 0) (S' := 0) 49 69 11 0 [] mkX11_here lkX11_135 (by decide) rfl rfl (by decide) rfl (Nat.le_of_ble_eq_true rfl) (Nat.le_of_ble_eq_true rfl) (Nat.le_of_ble_eq_true rfl) (Nat.le_of_ble_eq_true rfl) rfl rfl dX11_readUnit_46 rfl (c_X11_here hRM (TxM.ox (o := 6) hT) hs2 ?_)
          rw [esk]
          rw [if_pos cz]
          refine Kq_i (k' := 0) (sl' := 0) rfl rfl ?_
          refine V_callS (K' := 0) (S' := 0) 52 1 [.int (nI (t p))] mkX11_isDigit lkX11_156 rfl (Nat.le_of_ble_eq_true rfl) (Nat.le_of_ble_eq_true rfl) (Nat.le_of_ble_eq_true rfl) (Nat.le_of_ble_eq_true rfl) rfl rfl dX11_readUnit_49 rfl (c_X11_isDigit (fun e3 e4 => absurd ⟨cz, dg_iff.mpr ⟨(nI_leI (a := 48) (by omega) (by have := hT.2.2.2 p; omega)).mp e3, (nI_leI (b := 57) (by have := hT.2.2.2 p; omega) (by omega)).mp e4⟩⟩ cd) (fun e3 => ?_))
          refine Kq_i (k' := 0) (sl' := 0) rfl rfl ?_
          refine V_if_eq 71 55 rfl dX11_readUnit_52 rfl (fun c52 => ?_) (fun c52 => absurd c52 (by decide))
          refine V_aload_n 72 0 rfl _ rfl rfl dX11_readUnit_71 rfl ?_
          refine V_callV (K' := 0) (S' := 0) 75 69 11 0 [] mkX11_word lkX11_227 (by decide) rfl rfl (by decide) rfl (Nat.le_of_ble_eq_true rfl) (Nat.le_of_ble_eq_true rfl) (Nat.le_of_ble_eq_true rfl) (Nat.le_of_ble_eq_true rfl) rfl rfl dX11_readUnit_72 rfl (c_X11_word hRM (TxM.ox (o := 6) hT) hs2 ?_)
          rw [esk]
          refine Kq_i (k' := 0) (sl' := 0) rfl rfl ?_
          refine V_ldcSw 78 28 rfl rfl dX11_readUnit_75 rfl ?_
          refine V_callS (K' := 0) (S' := 0) 81 1 [sr G 28] mkX11_of lkX11_204 rfl (Nat.le_of_ble_eq_true rfl) (Nat.le_of_ble_eq_true rfl) (Nat.le_of_ble_eq_true rfl) (Nat.le_of_ble_eq_true rfl) rfl rfl dX11_readUnit_78 rfl (c_X11_of (wdo 28 (by decide) (by decide) (by decide)) ?_)
          refine Kq_i (k' := 0) (sl' := 0) rfl rfl ?_
          refine V_icmp_ne 94 84 rfl dX11_readUnit_81 rfl (fun c81 => absurd ((wN (t := t) hs2 (wdo 28 (by decide) (by decide) (by decide)) o5).mpr w5) c81) (fun c81 => ?_)
          refine V_aload_n 85 0 rfl _ rfl rfl dX11_readUnit_84 rfl ?_
          refine V_iconst 86 (5) rfl dX11_readUnit_85 rfl ?_
          refine V_bipush 88 (6) rfl dX11_readUnit_86 rfl ?_
          refine V_callV (K' := 0) (S' := 0) 91 69 11 2 [.int 5, .int 6] mkX11_readTwo lkX11_284 (by decide) rfl rfl (by decide) rfl (Nat.le_of_ble_eq_true rfl) (Nat.le_of_ble_eq_true rfl) (Nat.le_of_ble_eq_true rfl) (Nat.le_of_ble_eq_true rfl) rfl rfl dX11_readUnit_88 rfl (c_X11_readTwo6 (y := 5) (by omega) ?_ hRM hT hs2)
          refine Kq_v (k' := 0) (sl' := 0) rfl rfl ?_
          refine V_goto 154 rfl dX11_readUnit_91 ?_
          refine V_ret_v rfl (Nat.le_of_ble_eq_true rfl) (fun h => absurd h (by decide)) (Nat.le_of_ble_eq_true rfl) (hb 3 p I p ((if_neg cd).trans (if_pos (Or.inl w5))) (by decide) (by decide) hs2 hs2 FrN.rf) dX11_readUnit_154
        · have w6 : wcF t z p = ocF 6 := cw.elim (fun q => absurd q w5) id
          have hy : p + 4 = enF t z p := by have q := ((wc_iff hs2 (wdo 6 (by decide) (by decide) (by decide))).mp w6).1; rw [show stL 6 = 4 from rfl] at q; omega
          refine V_aload_n 1 0 rfl _ rfl rfl dX11_readUnit_0 rfl ?_
          refine V_callV (K' := 0) (S' := 0) 4 69 11 0 [] mkX11_fine lkX11_152 (by decide) rfl rfl (by decide) rfl (Nat.le_of_ble_eq_true rfl) (Nat.le_of_ble_eq_true rfl) (Nat.le_of_ble_eq_true rfl) (Nat.le_of_ble_eq_true rfl) rfl rfl dX11_readUnit_1 rfl (c_X11_fine (fun _ => ?_) (fun e => absurd rfl e))
          refine Kq_i (k' := 0) (sl' := 0) rfl rfl ?_
          refine V_if_ne 8 7 rfl dX11_readUnit_4 rfl (fun c4 => ?_) (fun c4 => absurd c4 (by decide))
          refine V_aload_n 9 0 rfl _ rfl rfl dX11_readUnit_8 rfl ?_
          refine V_callV (K' := 0) (S' := 0) 12 69 11 0 [] mkX11_here lkX11_135 (by decide) rfl rfl (by decide) rfl (Nat.le_of_ble_eq_true rfl) (Nat.le_of_ble_eq_true rfl) (Nat.le_of_ble_eq_true rfl) (Nat.le_of_ble_eq_true rfl) rfl rfl dX11_readUnit_9 rfl (c_X11_here hRM (TxM.ox (o := 6) hT) ha ?_)
          rw [← ep]
          rw [if_pos cz]
          refine Kq_i (k' := 0) (sl' := 0) rfl rfl ?_
          refine V_bipush 14 (40) rfl dX11_readUnit_12 rfl ?_
          refine V_icmp_ne 45 17 rfl dX11_readUnit_14 rfl (fun c14 => ?_) (fun c14 => absurd ((nI_eq (b := 40) (by have := hT.2.2.2 p; omega) (by decide)).mp c14) (fun e => c40 ⟨cz, e⟩))
          refine V_aload_n 46 0 rfl _ rfl rfl dX11_readUnit_45 rfl ?_
          refine V_callV (K' := 0) (S' := 0) 49 69 11 0 [] mkX11_here lkX11_135 (by decide) rfl rfl (by decide) rfl (Nat.le_of_ble_eq_true rfl) (Nat.le_of_ble_eq_true rfl) (Nat.le_of_ble_eq_true rfl) (Nat.le_of_ble_eq_true rfl) rfl rfl dX11_readUnit_46 rfl (c_X11_here hRM (TxM.ox (o := 6) hT) hs2 ?_)
          rw [esk]
          rw [if_pos cz]
          refine Kq_i (k' := 0) (sl' := 0) rfl rfl ?_
          refine V_callS (K' := 0) (S' := 0) 52 1 [.int (nI (t p))] mkX11_isDigit lkX11_156 rfl (Nat.le_of_ble_eq_true rfl) (Nat.le_of_ble_eq_true rfl) (Nat.le_of_ble_eq_true rfl) (Nat.le_of_ble_eq_true rfl) rfl rfl dX11_readUnit_49 rfl (c_X11_isDigit (fun e3 e4 => absurd ⟨cz, dg_iff.mpr ⟨(nI_leI (a := 48) (by omega) (by have := hT.2.2.2 p; omega)).mp e3, (nI_leI (b := 57) (by have := hT.2.2.2 p; omega) (by omega)).mp e4⟩⟩ cd) (fun e3 => ?_))
          refine Kq_i (k' := 0) (sl' := 0) rfl rfl ?_
          refine V_if_eq 71 55 rfl dX11_readUnit_52 rfl (fun c52 => ?_) (fun c52 => absurd c52 (by decide))
          refine V_aload_n 72 0 rfl _ rfl rfl dX11_readUnit_71 rfl ?_
          refine V_callV (K' := 0) (S' := 0) 75 69 11 0 [] mkX11_word lkX11_227 (by decide) rfl rfl (by decide) rfl (Nat.le_of_ble_eq_true rfl) (Nat.le_of_ble_eq_true rfl) (Nat.le_of_ble_eq_true rfl) (Nat.le_of_ble_eq_true rfl) rfl rfl dX11_readUnit_72 rfl (c_X11_word hRM (TxM.ox (o := 6) hT) hs2 ?_)
          rw [esk]
          refine Kq_i (k' := 0) (sl' := 0) rfl rfl ?_
          refine V_ldcSw 78 28 rfl rfl dX11_readUnit_75 rfl ?_
          refine V_callS (K' := 0) (S' := 0) 81 1 [sr G 28] mkX11_of lkX11_204 rfl (Nat.le_of_ble_eq_true rfl) (Nat.le_of_ble_eq_true rfl) (Nat.le_of_ble_eq_true rfl) (Nat.le_of_ble_eq_true rfl) rfl rfl dX11_readUnit_78 rfl (c_X11_of (wdo 28 (by decide) (by decide) (by decide)) ?_)
          refine Kq_i (k' := 0) (sl' := 0) rfl rfl ?_
          refine V_icmp_ne 94 84 rfl dX11_readUnit_81 rfl (fun c81 => ?_) (fun c81 => absurd ((wN (t := t) hs2 (wdo 28 (by decide) (by decide) (by decide)) o5).mp c81) w5)
          refine V_aload_n 95 0 rfl _ rfl rfl dX11_readUnit_94 rfl ?_
          refine V_callV (K' := 0) (S' := 0) 98 69 11 0 [] mkX11_word lkX11_227 (by decide) rfl rfl (by decide) rfl (Nat.le_of_ble_eq_true rfl) (Nat.le_of_ble_eq_true rfl) (Nat.le_of_ble_eq_true rfl) (Nat.le_of_ble_eq_true rfl) rfl rfl dX11_readUnit_95 rfl (c_X11_word hRM (TxM.ox (o := 6) hT) hs2 ?_)
          rw [esk]
          refine Kq_i (k' := 0) (sl' := 0) rfl rfl ?_
          refine V_ldcSw 101 29 rfl rfl dX11_readUnit_98 rfl ?_
          refine V_callS (K' := 0) (S' := 0) 104 1 [sr G 29] mkX11_of lkX11_204 rfl (Nat.le_of_ble_eq_true rfl) (Nat.le_of_ble_eq_true rfl) (Nat.le_of_ble_eq_true rfl) (Nat.le_of_ble_eq_true rfl) rfl rfl dX11_readUnit_101 rfl (c_X11_of (wdo 29 (by decide) (by decide) (by decide)) ?_)
          refine Kq_i (k' := 0) (sl' := 0) rfl rfl ?_
          refine V_icmp_ne 117 107 rfl dX11_readUnit_104 rfl (fun c104 => absurd ((wN (t := t) hs2 (wdo 29 (by decide) (by decide) (by decide)) o6).mpr w6) c104) (fun c104 => ?_)
          refine V_aload_n 108 0 rfl _ rfl rfl dX11_readUnit_107 rfl ?_
          refine V_iconst 109 (4) rfl dX11_readUnit_108 rfl ?_
          refine V_bipush 111 (7) rfl dX11_readUnit_109 rfl ?_
          refine V_callV (K' := 0) (S' := 0) 114 69 11 2 [.int 4, .int 7] mkX11_readTwo lkX11_284 (by decide) rfl rfl (by decide) rfl (Nat.le_of_ble_eq_true rfl) (Nat.le_of_ble_eq_true rfl) (Nat.le_of_ble_eq_true rfl) (Nat.le_of_ble_eq_true rfl) rfl rfl dX11_readUnit_111 rfl (c_X11_readTwo6 (y := 4) (by omega) ?_ hRM hT hs2)
          refine Kq_v (k' := 0) (sl' := 0) rfl rfl ?_
          refine V_goto 154 rfl dX11_readUnit_114 ?_
          refine V_ret_v rfl (Nat.le_of_ble_eq_true rfl) (fun h => absurd h (by decide)) (Nat.le_of_ble_eq_true rfl) (hb 3 p I p ((if_neg cd).trans (if_pos (Or.inr (Or.inl w6)))) (by decide) (by decide) hs2 hs2 FrN.rf) dX11_readUnit_154
      · have w5 : ¬ wcF t z p = ocF 5 := fun q => cw (Or.inl q)
        have w6 : ¬ wcF t z p = ocF 6 := fun q => cw (Or.inr q)
        have nop : ¬ (wcF t z p = ocF 5 ∨ wcF t z p = ocF 6 ∨ (p < z ∧ t p = 40)) := fun q => q.elim w5 (fun q => q.elim w6 c40)
        by_cases cz : p < z
        · cases ef : ftF t z p with
          | none =>
            refine V_aload_n 1 0 rfl _ rfl rfl dX11_readUnit_0 rfl ?_
            refine V_callV (K' := 0) (S' := 0) 4 69 11 0 [] mkX11_fine lkX11_152 (by decide) rfl rfl (by decide) rfl (Nat.le_of_ble_eq_true rfl) (Nat.le_of_ble_eq_true rfl) (Nat.le_of_ble_eq_true rfl) (Nat.le_of_ble_eq_true rfl) rfl rfl dX11_readUnit_1 rfl (c_X11_fine (fun _ => ?_) (fun e => absurd rfl e))
            refine Kq_i (k' := 0) (sl' := 0) rfl rfl ?_
            refine V_if_ne 8 7 rfl dX11_readUnit_4 rfl (fun c4 => ?_) (fun c4 => absurd c4 (by decide))
            refine V_aload_n 9 0 rfl _ rfl rfl dX11_readUnit_8 rfl ?_
            refine V_callV (K' := 0) (S' := 0) 12 69 11 0 [] mkX11_here lkX11_135 (by decide) rfl rfl (by decide) rfl (Nat.le_of_ble_eq_true rfl) (Nat.le_of_ble_eq_true rfl) (Nat.le_of_ble_eq_true rfl) (Nat.le_of_ble_eq_true rfl) rfl rfl dX11_readUnit_9 rfl (c_X11_here hRM (TxM.ox (o := 6) hT) ha ?_)
            rw [← ep]
            rw [if_pos cz]
            refine Kq_i (k' := 0) (sl' := 0) rfl rfl ?_
            refine V_bipush 14 (40) rfl dX11_readUnit_12 rfl ?_
            refine V_icmp_ne 45 17 rfl dX11_readUnit_14 rfl (fun c14 => ?_) (fun c14 => absurd ((nI_eq (b := 40) (by have := hT.2.2.2 p; omega) (by decide)).mp c14) (fun e => c40 ⟨cz, e⟩))
            refine V_aload_n 46 0 rfl _ rfl rfl dX11_readUnit_45 rfl ?_
            refine V_callV (K' := 0) (S' := 0) 49 69 11 0 [] mkX11_here lkX11_135 (by decide) rfl rfl (by decide) rfl (Nat.le_of_ble_eq_true rfl) (Nat.le_of_ble_eq_true rfl) (Nat.le_of_ble_eq_true rfl) (Nat.le_of_ble_eq_true rfl) rfl rfl dX11_readUnit_46 rfl (c_X11_here hRM (TxM.ox (o := 6) hT) hs2 ?_)
            rw [esk]
            rw [if_pos cz]
            refine Kq_i (k' := 0) (sl' := 0) rfl rfl ?_
            refine V_callS (K' := 0) (S' := 0) 52 1 [.int (nI (t p))] mkX11_isDigit lkX11_156 rfl (Nat.le_of_ble_eq_true rfl) (Nat.le_of_ble_eq_true rfl) (Nat.le_of_ble_eq_true rfl) (Nat.le_of_ble_eq_true rfl) rfl rfl dX11_readUnit_49 rfl (c_X11_isDigit (fun e3 e4 => absurd ⟨cz, dg_iff.mpr ⟨(nI_leI (a := 48) (by omega) (by have := hT.2.2.2 p; omega)).mp e3, (nI_leI (b := 57) (by have := hT.2.2.2 p; omega) (by omega)).mp e4⟩⟩ cd) (fun e3 => ?_))
            refine Kq_i (k' := 0) (sl' := 0) rfl rfl ?_
            refine V_if_eq 71 55 rfl dX11_readUnit_52 rfl (fun c52 => ?_) (fun c52 => absurd c52 (by decide))
            refine V_aload_n 72 0 rfl _ rfl rfl dX11_readUnit_71 rfl ?_
            refine V_callV (K' := 0) (S' := 0) 75 69 11 0 [] mkX11_word lkX11_227 (by decide) rfl rfl (by decide) rfl (Nat.le_of_ble_eq_true rfl) (Nat.le_of_ble_eq_true rfl) (Nat.le_of_ble_eq_true rfl) (Nat.le_of_ble_eq_true rfl) rfl rfl dX11_readUnit_72 rfl (c_X11_word hRM (TxM.ox (o := 6) hT) hs2 ?_)
            rw [esk]
            refine Kq_i (k' := 0) (sl' := 0) rfl rfl ?_
            refine V_ldcSw 78 28 rfl rfl dX11_readUnit_75 rfl ?_
            refine V_callS (K' := 0) (S' := 0) 81 1 [sr G 28] mkX11_of lkX11_204 rfl (Nat.le_of_ble_eq_true rfl) (Nat.le_of_ble_eq_true rfl) (Nat.le_of_ble_eq_true rfl) (Nat.le_of_ble_eq_true rfl) rfl rfl dX11_readUnit_78 rfl (c_X11_of (wdo 28 (by decide) (by decide) (by decide)) ?_)
            refine Kq_i (k' := 0) (sl' := 0) rfl rfl ?_
            refine V_icmp_ne 94 84 rfl dX11_readUnit_81 rfl (fun c81 => ?_) (fun c81 => absurd ((wN (t := t) hs2 (wdo 28 (by decide) (by decide) (by decide)) o5).mp c81) w5)
            refine V_aload_n 95 0 rfl _ rfl rfl dX11_readUnit_94 rfl ?_
            refine V_callV (K' := 0) (S' := 0) 98 69 11 0 [] mkX11_word lkX11_227 (by decide) rfl rfl (by decide) rfl (Nat.le_of_ble_eq_true rfl) (Nat.le_of_ble_eq_true rfl) (Nat.le_of_ble_eq_true rfl) (Nat.le_of_ble_eq_true rfl) rfl rfl dX11_readUnit_95 rfl (c_X11_word hRM (TxM.ox (o := 6) hT) hs2 ?_)
            rw [esk]
            refine Kq_i (k' := 0) (sl' := 0) rfl rfl ?_
            refine V_ldcSw 101 29 rfl rfl dX11_readUnit_98 rfl ?_
            refine V_callS (K' := 0) (S' := 0) 104 1 [sr G 29] mkX11_of lkX11_204 rfl (Nat.le_of_ble_eq_true rfl) (Nat.le_of_ble_eq_true rfl) (Nat.le_of_ble_eq_true rfl) (Nat.le_of_ble_eq_true rfl) rfl rfl dX11_readUnit_101 rfl (c_X11_of (wdo 29 (by decide) (by decide) (by decide)) ?_)
            refine Kq_i (k' := 0) (sl' := 0) rfl rfl ?_
            refine V_icmp_ne 117 107 rfl dX11_readUnit_104 rfl (fun c104 => ?_) (fun c104 => absurd ((wN (t := t) hs2 (wdo 29 (by decide) (by decide) (by decide)) o6).mp c104) w6)
            refine V_aload_n 118 0 rfl _ rfl rfl dX11_readUnit_117 rfl ?_
            refine V_callV (K' := 0) (S' := 0) 121 69 11 0 [] mkX11_factHere lkX11_289 (by decide) rfl rfl (by decide) rfl (Nat.le_of_ble_eq_true rfl) (Nat.le_of_ble_eq_true rfl) (Nat.le_of_ble_eq_true rfl) (Nat.le_of_ble_eq_true rfl) rfl rfl dX11_readUnit_118 rfl (c_X11_factHere hRM (TxM.ox (o := 6) hT) hs2 ?_)
            rw [esk, ef]
            show Kq _ _ _ _ _ _ _ _ _ _ _ (.inl (some (.int (-1)))) _ _ _ _
            refine Kq_i (k' := 0) (sl' := 0) rfl rfl ?_
            refine V_istore_n 122 [(1, .int (-1)), (0, rf G 69)] (by decide) rfl rfl dX11_readUnit_121 rfl ?_
            refine V_iload_n 123 0 rfl rfl dX11_readUnit_122 rfl ?_
            refine V_iconst 124 (-1) rfl dX11_readUnit_123 rfl ?_
            refine V_icmp_ne 136 127 rfl dX11_readUnit_124 rfl (fun c124 => absurd c124 (by decide)) (fun c124 => ?_)
            refine V_aload_n 128 1 rfl _ rfl rfl dX11_readUnit_127 rfl ?_
            refine V_iconst 129 (1) rfl dX11_readUnit_128 rfl ?_
            refine V_aload_n 130 1 rfl _ rfl rfl dX11_readUnit_129 rfl ?_
            refine V_getI 133 69 11 4 (nI p) rfl flX11_129 rfl rfl rfl (by decide) dX11_readUnit_130 rfl ?_
            refine V_callV (K' := 0) (S' := 0) 136 69 11 2 [.int 1, .int (nI p)] mkX11_wrong lkX11_159 (by decide) rfl rfl (by decide) rfl (Nat.le_of_ble_eq_true rfl) (Nat.le_of_ble_eq_true rfl) (Nat.le_of_ble_eq_true rfl) (Nat.le_of_ble_eq_true rfl) rfl rfl dX11_readUnit_133 rfl (c_X11_wrong (kd := 1) (q := p) (fun e => absurd rfl e) (fun _ => ?_))
            refine Kq_v (k' := 0) (sl' := 0) rfl rfl ?_
            refine V_aload_n 137 1 rfl _ rfl rfl dX11_readUnit_136 rfl ?_
            refine V_callV (K' := 0) (S' := 0) 140 69 11 0 [] mkX11_fine lkX11_152 (by decide) rfl rfl (by decide) rfl (Nat.le_of_ble_eq_true rfl) (Nat.le_of_ble_eq_true rfl) (Nat.le_of_ble_eq_true rfl) (Nat.le_of_ble_eq_true rfl) rfl rfl dX11_readUnit_137 rfl (c_X11_fine (fun e => absurd e (nI_ne (by omega))) (fun _ => ?_))
            refine Kq_i (k' := 0) (sl' := 0) rfl rfl ?_
            refine V_if_ne 144 143 rfl dX11_readUnit_140 rfl (fun c140 => absurd c140 (by decide)) (fun c140 => ?_)
            refine V_ret_v rfl (Nat.le_of_ble_eq_true rfl) (fun h => absurd h (by decide)) (Nat.le_of_ble_eq_true rfl) (hb 1 p I p ((if_neg cd).trans ((if_neg nop).trans (by show pFact t z p = _; unfold pFact; rw [ef]))) (by decide) (by decide) hs2 hs2 FrN.rf) dX11_readUnit_143
          | some ft =>
            have hft := ftF_lt ef
            have wl := ft_word hs2 ef
            refine V_aload_n 1 0 rfl _ rfl rfl dX11_readUnit_0 rfl ?_
            refine V_callV (K' := 0) (S' := 0) 4 69 11 0 [] mkX11_fine lkX11_152 (by decide) rfl rfl (by decide) rfl (Nat.le_of_ble_eq_true rfl) (Nat.le_of_ble_eq_true rfl) (Nat.le_of_ble_eq_true rfl) (Nat.le_of_ble_eq_true rfl) rfl rfl dX11_readUnit_1 rfl (c_X11_fine (fun _ => ?_) (fun e => absurd rfl e))
            refine Kq_i (k' := 0) (sl' := 0) rfl rfl ?_
            refine V_if_ne 8 7 rfl dX11_readUnit_4 rfl (fun c4 => ?_) (fun c4 => absurd c4 (by decide))
            refine V_aload_n 9 0 rfl _ rfl rfl dX11_readUnit_8 rfl ?_
            refine V_callV (K' := 0) (S' := 0) 12 69 11 0 [] mkX11_here lkX11_135 (by decide) rfl rfl (by decide) rfl (Nat.le_of_ble_eq_true rfl) (Nat.le_of_ble_eq_true rfl) (Nat.le_of_ble_eq_true rfl) (Nat.le_of_ble_eq_true rfl) rfl rfl dX11_readUnit_9 rfl (c_X11_here hRM (TxM.ox (o := 6) hT) ha ?_)
            rw [← ep]
            rw [if_pos cz]
            refine Kq_i (k' := 0) (sl' := 0) rfl rfl ?_
            refine V_bipush 14 (40) rfl dX11_readUnit_12 rfl ?_
            refine V_icmp_ne 45 17 rfl dX11_readUnit_14 rfl (fun c14 => ?_) (fun c14 => absurd ((nI_eq (b := 40) (by have := hT.2.2.2 p; omega) (by decide)).mp c14) (fun e => c40 ⟨cz, e⟩))
            refine V_aload_n 46 0 rfl _ rfl rfl dX11_readUnit_45 rfl ?_
            refine V_callV (K' := 0) (S' := 0) 49 69 11 0 [] mkX11_here lkX11_135 (by decide) rfl rfl (by decide) rfl (Nat.le_of_ble_eq_true rfl) (Nat.le_of_ble_eq_true rfl) (Nat.le_of_ble_eq_true rfl) (Nat.le_of_ble_eq_true rfl) rfl rfl dX11_readUnit_46 rfl (c_X11_here hRM (TxM.ox (o := 6) hT) hs2 ?_)
            rw [esk]
            rw [if_pos cz]
            refine Kq_i (k' := 0) (sl' := 0) rfl rfl ?_
            refine V_callS (K' := 0) (S' := 0) 52 1 [.int (nI (t p))] mkX11_isDigit lkX11_156 rfl (Nat.le_of_ble_eq_true rfl) (Nat.le_of_ble_eq_true rfl) (Nat.le_of_ble_eq_true rfl) (Nat.le_of_ble_eq_true rfl) rfl rfl dX11_readUnit_49 rfl (c_X11_isDigit (fun e3 e4 => absurd ⟨cz, dg_iff.mpr ⟨(nI_leI (a := 48) (by omega) (by have := hT.2.2.2 p; omega)).mp e3, (nI_leI (b := 57) (by have := hT.2.2.2 p; omega) (by omega)).mp e4⟩⟩ cd) (fun e3 => ?_))
            refine Kq_i (k' := 0) (sl' := 0) rfl rfl ?_
            refine V_if_eq 71 55 rfl dX11_readUnit_52 rfl (fun c52 => ?_) (fun c52 => absurd c52 (by decide))
            refine V_aload_n 72 0 rfl _ rfl rfl dX11_readUnit_71 rfl ?_
            refine V_callV (K' := 0) (S' := 0) 75 69 11 0 [] mkX11_word lkX11_227 (by decide) rfl rfl (by decide) rfl (Nat.le_of_ble_eq_true rfl) (Nat.le_of_ble_eq_true rfl) (Nat.le_of_ble_eq_true rfl) (Nat.le_of_ble_eq_true rfl) rfl rfl dX11_readUnit_72 rfl (c_X11_word hRM (TxM.ox (o := 6) hT) hs2 ?_)
            rw [esk]
            refine Kq_i (k' := 0) (sl' := 0) rfl rfl ?_
            refine V_ldcSw 78 28 rfl rfl dX11_readUnit_75 rfl ?_
            refine V_callS (K' := 0) (S' := 0) 81 1 [sr G 28] mkX11_of lkX11_204 rfl (Nat.le_of_ble_eq_true rfl) (Nat.le_of_ble_eq_true rfl) (Nat.le_of_ble_eq_true rfl) (Nat.le_of_ble_eq_true rfl) rfl rfl dX11_readUnit_78 rfl (c_X11_of (wdo 28 (by decide) (by decide) (by decide)) ?_)
            refine Kq_i (k' := 0) (sl' := 0) rfl rfl ?_
            refine V_icmp_ne 94 84 rfl dX11_readUnit_81 rfl (fun c81 => ?_) (fun c81 => absurd ((wN (t := t) hs2 (wdo 28 (by decide) (by decide) (by decide)) o5).mp c81) w5)
            refine V_aload_n 95 0 rfl _ rfl rfl dX11_readUnit_94 rfl ?_
            refine V_callV (K' := 0) (S' := 0) 98 69 11 0 [] mkX11_word lkX11_227 (by decide) rfl rfl (by decide) rfl (Nat.le_of_ble_eq_true rfl) (Nat.le_of_ble_eq_true rfl) (Nat.le_of_ble_eq_true rfl) (Nat.le_of_ble_eq_true rfl) rfl rfl dX11_readUnit_95 rfl (c_X11_word hRM (TxM.ox (o := 6) hT) hs2 ?_)
            rw [esk]
            refine Kq_i (k' := 0) (sl' := 0) rfl rfl ?_
            refine V_ldcSw 101 29 rfl rfl dX11_readUnit_98 rfl ?_
            refine V_callS (K' := 0) (S' := 0) 104 1 [sr G 29] mkX11_of lkX11_204 rfl (Nat.le_of_ble_eq_true rfl) (Nat.le_of_ble_eq_true rfl) (Nat.le_of_ble_eq_true rfl) (Nat.le_of_ble_eq_true rfl) rfl rfl dX11_readUnit_101 rfl (c_X11_of (wdo 29 (by decide) (by decide) (by decide)) ?_)
            refine Kq_i (k' := 0) (sl' := 0) rfl rfl ?_
            refine V_icmp_ne 117 107 rfl dX11_readUnit_104 rfl (fun c104 => ?_) (fun c104 => absurd ((wN (t := t) hs2 (wdo 29 (by decide) (by decide) (by decide)) o6).mp c104) w6)
            refine V_aload_n 118 0 rfl _ rfl rfl dX11_readUnit_117 rfl ?_
            refine V_callV (K' := 0) (S' := 0) 121 69 11 0 [] mkX11_factHere lkX11_289 (by decide) rfl rfl (by decide) rfl (Nat.le_of_ble_eq_true rfl) (Nat.le_of_ble_eq_true rfl) (Nat.le_of_ble_eq_true rfl) (Nat.le_of_ble_eq_true rfl) rfl rfl dX11_readUnit_118 rfl (c_X11_factHere hRM (TxM.ox (o := 6) hT) hs2 ?_)
            rw [esk, ef]
            show Kq _ _ _ _ _ _ _ _ _ _ _ (.inl (some (.int (nI ft)))) _ _ _ _
            refine Kq_i (k' := 0) (sl' := 0) rfl rfl ?_
            refine V_istore_n 122 [(1, .int (nI ft)), (0, rf G 69)] (by decide) rfl rfl dX11_readUnit_121 rfl ?_
            refine V_iload_n 123 0 rfl rfl dX11_readUnit_122 rfl ?_
            refine V_iconst 124 (-1) rfl dX11_readUnit_123 rfl ?_
            refine V_icmp_ne 136 127 rfl dX11_readUnit_124 rfl (fun c124 => ?_) (fun c124 => absurd c124 (nI_ne (by omega)))
            refine V_aload_n 137 1 rfl _ rfl rfl dX11_readUnit_136 rfl ?_
            refine V_callV (K' := 0) (S' := 0) 140 69 11 0 [] mkX11_fine lkX11_152 (by decide) rfl rfl (by decide) rfl (Nat.le_of_ble_eq_true rfl) (Nat.le_of_ble_eq_true rfl) (Nat.le_of_ble_eq_true rfl) (Nat.le_of_ble_eq_true rfl) rfl rfl dX11_readUnit_137 rfl (c_X11_fine (fun _ => ?_) (fun e => absurd rfl e))
            refine Kq_i (k' := 0) (sl' := 0) rfl rfl ?_
            refine V_if_ne 144 143 rfl dX11_readUnit_140 rfl (fun c140 => ?_) (fun c140 => absurd c140 (by decide))
            refine V_aload_n 145 1 rfl _ rfl rfl dX11_readUnit_144 rfl ?_
            refine V_callV (K' := 0) (S' := 0) 148 69 11 0 [] mkX11_pass lkX11_236 (by decide) rfl rfl (by decide) rfl (Nat.le_of_ble_eq_true rfl) (Nat.le_of_ble_eq_true rfl) (Nat.le_of_ble_eq_true rfl) (Nat.le_of_ble_eq_true rfl) rfl rfl dX11_readUnit_145 rfl (c_X11_pass hRM (TxM.ox (o := 6) hT) hs2 ?_)
            rw [wl]
            refine Kq_v (k' := 0) (sl' := 0) rfl rfl ?_
            refine V_aload_n 149 1 rfl _ rfl rfl dX11_readUnit_148 rfl ?_
            refine V_iconst 150 (1) rfl dX11_readUnit_149 rfl ?_
            refine V_iload_n 151 0 rfl rfl dX11_readUnit_150 rfl ?_
            have hj151 := em_f (a := ft) hNB (by omega) hft
            refine V_callV (K' := 0) (S' := 0) 154 69 11 2 [.int 1, .int (nI ft)] mkX11_emit lkX11_255 (by decide) rfl rfl (by decide) rfl (Nat.le_of_ble_eq_true rfl) (Nat.le_of_ble_eq_true rfl) (Nat.le_of_ble_eq_true rfl) (Nat.le_of_ble_eq_true rfl) rfl rfl dX11_readUnit_151 rfl (c_X11_emit hRM hNB.1 (by omega) ?_)
            refine Kq_v (k' := 0) (sl' := 0) rfl rfl ?_
            refine V_ret_v rfl (Nat.le_of_ble_eq_true rfl) (fun h => absurd h (by decide)) (Nat.le_of_ble_eq_true rfl) (hk _ _ _ _ _ ((if_neg cd).trans ((if_neg nop).trans (by show pFact t z p = _; unfold pFact; rw [ef]))) (n3 cz) n2 (enF_z hs2).2.1 rfl (by omega) (by have := n3 cz; omega) hj151.1 hj151.2 em_ex em_fr) dX11_readUnit_154
        · cases ef : ftF t z p with
          | none =>
            refine V_aload_n 1 0 rfl _ rfl rfl dX11_readUnit_0 rfl ?_
            refine V_callV (K' := 0) (S' := 0) 4 69 11 0 [] mkX11_fine lkX11_152 (by decide) rfl rfl (by decide) rfl (Nat.le_of_ble_eq_true rfl) (Nat.le_of_ble_eq_true rfl) (Nat.le_of_ble_eq_true rfl) (Nat.le_of_ble_eq_true rfl) rfl rfl dX11_readUnit_1 rfl (c_X11_fine (fun _ => ?_) (fun e => absurd rfl e))
            refine Kq_i (k' := 0) (sl' := 0) rfl rfl ?_
            refine V_if_ne 8 7 rfl dX11_readUnit_4 rfl (fun c4 => ?_) (fun c4 => absurd c4 (by decide))
            refine V_aload_n 9 0 rfl _ rfl rfl dX11_readUnit_8 rfl ?_
            refine V_callV (K' := 0) (S' := 0) 12 69 11 0 [] mkX11_here lkX11_135 (by decide) rfl rfl (by decide) rfl (Nat.le_of_ble_eq_true rfl) (Nat.le_of_ble_eq_true rfl) (Nat.le_of_ble_eq_true rfl) (Nat.le_of_ble_eq_true rfl) rfl rfl dX11_readUnit_9 rfl (c_X11_here hRM (TxM.ox (o := 6) hT) ha ?_)
            rw [← ep]
            rw [if_neg cz]
            refine Kq_i (k' := 0) (sl' := 0) rfl rfl ?_
            refine V_bipush 14 (40) rfl dX11_readUnit_12 rfl ?_
            refine V_icmp_ne 45 17 rfl dX11_readUnit_14 rfl (fun c14 => ?_) (fun c14 => absurd c14 (by decide))
            refine V_aload_n 46 0 rfl _ rfl rfl dX11_readUnit_45 rfl ?_
            refine V_callV (K' := 0) (S' := 0) 49 69 11 0 [] mkX11_here lkX11_135 (by decide) rfl rfl (by decide) rfl (Nat.le_of_ble_eq_true rfl) (Nat.le_of_ble_eq_true rfl) (Nat.le_of_ble_eq_true rfl) (Nat.le_of_ble_eq_true rfl) rfl rfl dX11_readUnit_46 rfl (c_X11_here hRM (TxM.ox (o := 6) hT) hs2 ?_)
            rw [esk]
            rw [if_neg cz]
            refine Kq_i (k' := 0) (sl' := 0) rfl rfl ?_
            refine V_callS (K' := 0) (S' := 0) 52 1 [.int 0] mkX11_isDigit lkX11_156 rfl (Nat.le_of_ble_eq_true rfl) (Nat.le_of_ble_eq_true rfl) (Nat.le_of_ble_eq_true rfl) (Nat.le_of_ble_eq_true rfl) rfl rfl dX11_readUnit_49 rfl (c_X11_isDigit (fun e3 e4 => absurd e3 (by decide)) (fun e3 => ?_))
            refine Kq_i (k' := 0) (sl' := 0) rfl rfl ?_
            refine V_if_eq 71 55 rfl dX11_readUnit_52 rfl (fun c52 => ?_) (fun c52 => absurd c52 (by decide))
            refine V_aload_n 72 0 rfl _ rfl rfl dX11_readUnit_71 rfl ?_
            refine V_callV (K' := 0) (S' := 0) 75 69 11 0 [] mkX11_word lkX11_227 (by decide) rfl rfl (by decide) rfl (Nat.le_of_ble_eq_true rfl) (Nat.le_of_ble_eq_true rfl) (Nat.le_of_ble_eq_true rfl) (Nat.le_of_ble_eq_true rfl) rfl rfl dX11_readUnit_72 rfl (c_X11_word hRM (TxM.ox (o := 6) hT) hs2 ?_)
            rw [esk]
            refine Kq_i (k' := 0) (sl' := 0) rfl rfl ?_
            refine V_ldcSw 78 28 rfl rfl dX11_readUnit_75 rfl ?_
            refine V_callS (K' := 0) (S' := 0) 81 1 [sr G 28] mkX11_of lkX11_204 rfl (Nat.le_of_ble_eq_true rfl) (Nat.le_of_ble_eq_true rfl) (Nat.le_of_ble_eq_true rfl) (Nat.le_of_ble_eq_true rfl) rfl rfl dX11_readUnit_78 rfl (c_X11_of (wdo 28 (by decide) (by decide) (by decide)) ?_)
            refine Kq_i (k' := 0) (sl' := 0) rfl rfl ?_
            refine V_icmp_ne 94 84 rfl dX11_readUnit_81 rfl (fun c81 => ?_) (fun c81 => absurd ((wN (t := t) hs2 (wdo 28 (by decide) (by decide) (by decide)) o5).mp c81) w5)
            refine V_aload_n 95 0 rfl _ rfl rfl dX11_readUnit_94 rfl ?_
            refine V_callV (K' := 0) (S' := 0) 98 69 11 0 [] mkX11_word lkX11_227 (by decide) rfl rfl (by decide) rfl (Nat.le_of_ble_eq_true rfl) (Nat.le_of_ble_eq_true rfl) (Nat.le_of_ble_eq_true rfl) (Nat.le_of_ble_eq_true rfl) rfl rfl dX11_readUnit_95 rfl (c_X11_word hRM (TxM.ox (o := 6) hT) hs2 ?_)
            rw [esk]
            refine Kq_i (k' := 0) (sl' := 0) rfl rfl ?_
            refine V_ldcSw 101 29 rfl rfl dX11_readUnit_98 rfl ?_
            refine V_callS (K' := 0) (S' := 0) 104 1 [sr G 29] mkX11_of lkX11_204 rfl (Nat.le_of_ble_eq_true rfl) (Nat.le_of_ble_eq_true rfl) (Nat.le_of_ble_eq_true rfl) (Nat.le_of_ble_eq_true rfl) rfl rfl dX11_readUnit_101 rfl (c_X11_of (wdo 29 (by decide) (by decide) (by decide)) ?_)
            refine Kq_i (k' := 0) (sl' := 0) rfl rfl ?_
            refine V_icmp_ne 117 107 rfl dX11_readUnit_104 rfl (fun c104 => ?_) (fun c104 => absurd ((wN (t := t) hs2 (wdo 29 (by decide) (by decide) (by decide)) o6).mp c104) w6)
            refine V_aload_n 118 0 rfl _ rfl rfl dX11_readUnit_117 rfl ?_
            refine V_callV (K' := 0) (S' := 0) 121 69 11 0 [] mkX11_factHere lkX11_289 (by decide) rfl rfl (by decide) rfl (Nat.le_of_ble_eq_true rfl) (Nat.le_of_ble_eq_true rfl) (Nat.le_of_ble_eq_true rfl) (Nat.le_of_ble_eq_true rfl) rfl rfl dX11_readUnit_118 rfl (c_X11_factHere hRM (TxM.ox (o := 6) hT) hs2 ?_)
            rw [esk, ef]
            show Kq _ _ _ _ _ _ _ _ _ _ _ (.inl (some (.int (-1)))) _ _ _ _
            refine Kq_i (k' := 0) (sl' := 0) rfl rfl ?_
            refine V_istore_n 122 [(1, .int (-1)), (0, rf G 69)] (by decide) rfl rfl dX11_readUnit_121 rfl ?_
            refine V_iload_n 123 0 rfl rfl dX11_readUnit_122 rfl ?_
            refine V_iconst 124 (-1) rfl dX11_readUnit_123 rfl ?_
            refine V_icmp_ne 136 127 rfl dX11_readUnit_124 rfl (fun c124 => absurd c124 (by decide)) (fun c124 => ?_)
            refine V_aload_n 128 1 rfl _ rfl rfl dX11_readUnit_127 rfl ?_
            refine V_iconst 129 (1) rfl dX11_readUnit_128 rfl ?_
            refine V_aload_n 130 1 rfl _ rfl rfl dX11_readUnit_129 rfl ?_
            refine V_getI 133 69 11 4 (nI p) rfl flX11_129 rfl rfl rfl (by decide) dX11_readUnit_130 rfl ?_
            refine V_callV (K' := 0) (S' := 0) 136 69 11 2 [.int 1, .int (nI p)] mkX11_wrong lkX11_159 (by decide) rfl rfl (by decide) rfl (Nat.le_of_ble_eq_true rfl) (Nat.le_of_ble_eq_true rfl) (Nat.le_of_ble_eq_true rfl) (Nat.le_of_ble_eq_true rfl) rfl rfl dX11_readUnit_133 rfl (c_X11_wrong (kd := 1) (q := p) (fun e => absurd rfl e) (fun _ => ?_))
            refine Kq_v (k' := 0) (sl' := 0) rfl rfl ?_
            refine V_aload_n 137 1 rfl _ rfl rfl dX11_readUnit_136 rfl ?_
            refine V_callV (K' := 0) (S' := 0) 140 69 11 0 [] mkX11_fine lkX11_152 (by decide) rfl rfl (by decide) rfl (Nat.le_of_ble_eq_true rfl) (Nat.le_of_ble_eq_true rfl) (Nat.le_of_ble_eq_true rfl) (Nat.le_of_ble_eq_true rfl) rfl rfl dX11_readUnit_137 rfl (c_X11_fine (fun e => absurd e (nI_ne (by omega))) (fun _ => ?_))
            refine Kq_i (k' := 0) (sl' := 0) rfl rfl ?_
            refine V_if_ne 144 143 rfl dX11_readUnit_140 rfl (fun c140 => absurd c140 (by decide)) (fun c140 => ?_)
            refine V_ret_v rfl (Nat.le_of_ble_eq_true rfl) (fun h => absurd h (by decide)) (Nat.le_of_ble_eq_true rfl) (hb 1 p I p ((if_neg cd).trans ((if_neg nop).trans (by show pFact t z p = _; unfold pFact; rw [ef]))) (by decide) (by decide) hs2 hs2 FrN.rf) dX11_readUnit_143
          | some ft =>
            exfalso
            have e0 : wcF t z p = 0 := by unfold wcF; rw [sc_st (fun h => cz h.1), Nat.sub_self]; rfl
            have en : ftF t z p = none := by unfold ftF; rw [e0]; decide +kernel
            rw [ef] at en; cases en
set_option maxHeartbeats 8000000 in
theorem c_X11_readUnitS {G : Gx} {t : Nat → Nat} {z D0 : Nat} {lev : Nat} (hlev : lev < 6) (hU : LMt G mX11_readSum D0 (6 - lev) [] t z (pSum (pUnit t z lev) t z)) : LMt G mX11_readUnit (D0 + 20) (6 - (lev + 1)) [] t z (pUnit t z (lev + 1)) := by
  intro d I R J Q a n k hd hRM hT h150 ha hn hNB hk hb
  obtain ⟨m, rfl⟩ : ∃ m, d = m + 20 := ⟨d - 20, by omega⟩
  have h6 := hT.2.1
  obtain ⟨hs1, hs2, hs3⟩ := sk_z (t := t) ha
  have esk := sk_sk (t := t) ha
  obtain ⟨p, ep⟩ : ∃ p, p = sk t z a := ⟨_, rfl⟩
  rw [← ep] at hn hk hb hs1 hs2 esk
  obtain ⟨n1, n2, n3⟩ := nx_z (t := t) hs2
  have nxe : nx t z p = sk t z (enF t z p) := rfl
  obtain ⟨o5, o6, -⟩ := oc_f
  obtain ⟨o, eo⟩ : ∃ o, o = 6 - (lev + 1) := ⟨_, rfl⟩
  have eo1 : 6 - lev = o + 1 := by omega
  rw [eo1] at hU
  rw [← eo] at hk hb ⊢
  show V _ _ _ _ _ _ _ _ [(0, rf G 69)] [] _ _ _ _ _
  by_cases c40 : p < z ∧ t p = 40
  · have nd : ¬ (p < z ∧ dg (t p) = true) := fun q => by have := dg_iff.mp q.2; omega
    have en : sk t z (p + 1) = nx t z p := by unfold nx enF; rw [if_neg (by omega), c40.2, if_neg (by decide), if_neg (by decide)]
    have n4 := n3 c40.1
    rw [← en] at n2 n4
    refine V_aload_n 1 0 rfl _ rfl rfl dX11_readUnit_0 rfl ?_
    refine V_callV (K' := 0) (S' := 0) 4 69 11 0 [] mkX11_fine lkX11_152 (by decide) rfl rfl (by decide) rfl (Nat.le_of_ble_eq_true rfl) (Nat.le_of_ble_eq_true rfl) (Nat.le_of_ble_eq_true rfl) (Nat.le_of_ble_eq_true rfl) rfl rfl dX11_readUnit_1 rfl (c_X11_fine (fun _ => ?_) (fun e => absurd rfl e))
    refine Kq_i (k' := 0) (sl' := 0) rfl rfl ?_
    refine V_if_ne 8 7 rfl dX11_readUnit_4 rfl (fun c4 => ?_) (fun c4 => absurd c4 (by decide))
    refine V_aload_n 9 0 rfl _ rfl rfl dX11_readUnit_8 rfl ?_
    refine V_callV (K' := 0) (S' := 0) 12 69 11 0 [] mkX11_here lkX11_135 (by decide) rfl rfl (by decide) rfl (Nat.le_of_ble_eq_true rfl) (Nat.le_of_ble_eq_true rfl) (Nat.le_of_ble_eq_true rfl) (Nat.le_of_ble_eq_true rfl) rfl rfl dX11_readUnit_9 rfl (c_X11_here hRM (TxM.ox (o := o) hT) ha ?_)
    rw [← ep]
    rw [if_pos c40.1, c40.2, show nI 40 = (40 : Int32) from rfl]
    refine Kq_i (k' := 0) (sl' := 0) rfl rfl ?_
    refine V_bipush 14 (40) rfl dX11_readUnit_12 rfl ?_
    refine V_icmp_ne 45 17 rfl dX11_readUnit_14 rfl (fun c14 => absurd c14 (by decide)) (fun c14 => ?_)
    refine V_aload_n 18 0 rfl _ rfl rfl dX11_readUnit_17 rfl ?_
    refine V_iconst 19 (1) rfl dX11_readUnit_18 rfl ?_
    refine V_callV (K' := 0) (S' := 0) 22 69 11 1 [.int 1] mkX11_opensOne lkX11_261 (by decide) rfl rfl (by decide) rfl (Nat.le_of_ble_eq_true rfl) (Nat.le_of_ble_eq_true rfl) (Nat.le_of_ble_eq_true rfl) (Nat.le_of_ble_eq_true rfl) rfl rfl dX11_readUnit_19 rfl (c_X11_opensOne (y := 1) (by omega) ?_)
    refine Kq_v (k' := 0) (sl' := 0) rfl rfl ?_
    refine V_aload_n 23 0 rfl _ rfl rfl dX11_readUnit_22 rfl ?_
    refine V_callV (K' := 0) (S' := 0) 26 69 11 0 [] mkX11_readSum lkX11_264 (by decide) rfl rfl (by decide) rfl (Nat.le_of_ble_eq_true rfl) (Nat.le_of_ble_eq_true rfl) (Nat.le_of_ble_eq_true rfl) (Nat.le_of_ble_eq_true rfl) rfl rfl dX11_readUnit_23 rfl (hU _ _ _ _ _ (p + 1) n _ (by omega) hRM hT h150 (Nat.succ_le_of_lt c40.1) (by omega) hNB (fun e23 p23 I23 a23 n23 eq23 lt23 hp23 ha23 es23 hn23 hnn23 hNB23 hV23 hE23 hF23 => ?_) (fun k23 q23 I23 a23 eq23 hk23 hk323 hq23 ha23 hF23 => ?_))
    · refine Kq_v (k' := 0) (sl' := 0) rfl rfl ?_
      have hT23 := hF23.T hT
      refine V_aload_n 27 0 rfl _ rfl rfl dX11_readUnit_26 rfl ?_
      refine V_bipush 29 (41) rfl dX11_readUnit_27 rfl ?_
      refine V_callV (K' := 0) (S' := 0) 32 69 11 1 [.int 41] mkX11_sign lkX11_242 (by decide) rfl rfl (by decide) rfl (Nat.le_of_ble_eq_true rfl) (Nat.le_of_ble_eq_true rfl) (Nat.le_of_ble_eq_true rfl) (Nat.le_of_ble_eq_true rfl) rfl rfl dX11_readUnit_29 rfl (c_X11_sign (c := 41) hRM (TxM.ox (o := o + 1) hT23) (by decide) (by decide) ha23 (fun e => absurd rfl e) (fun _ z29 s29 => ?_) (fun _ e29 => ?_))
      · refine Kq_v (k' := 0) (sl' := 0) rfl rfl ?_
        have e29 : pSig t z 41 (sk t z a23) = .inr (sk t z (sk t z a23 + 1)) := sig_ok z29 s29 (by decide) (by decide)
        have lz29 := (pSig_ok e29).2.2.2
        refine V_aload_n 33 0 rfl _ rfl rfl dX11_readUnit_32 rfl ?_
        refine V_dup 34 rfl dX11_readUnit_33 rfl ?_
        refine V_getI 37 69 11 7 (nI (o + 1)) (show lx _ _ _ _ 69 7 = _ from by rw [lx_69 (by decide) (by decide) (by decide)]; exact ox_7) flX11_163 rfl rfl rfl (by decide) dX11_readUnit_34 rfl ?_
        refine V_iconst 38 (1) rfl dX11_readUnit_37 rfl ?_
        refine V_isub 39 dX11_readUnit_38 rfl ?_
        refine V_rw (nI_pred o) ?_
        refine V_putI 42 69 11 7 flX11_163 rfl rfl rfl (by decide) rfl dX11_readUnit_39 rfl ?_
        rw [lx_up (fun _ => by decide), ox_ox]
        refine V_goto 154 rfl dX11_readUnit_42 ?_
        refine V_ret_v rfl (Nat.le_of_ble_eq_true rfl) (fun h => absurd h (by decide)) (Nat.le_of_ble_eq_true rfl) (hk _ _ _ _ _ ((if_neg nd).trans ((if_pos (Or.inr (Or.inr c40))).trans ((if_pos c40).trans ((bd_ok (show pSum (pUnit t z lev) t z (nx t z p) = _ from by rw [← en]; exact eq23)).trans (bd_ok (show pSig t z 41 p23 = .inr (sk t z (sk t z a23 + 1)) from by rw [← es23]; exact e29)))))) (by omega) (by omega) (Nat.succ_le_of_lt z29) rfl (by omega) (by omega) hNB23 hV23 hE23 hF23) dX11_readUnit_154
      · refine Kq_v (k' := 0) (sl' := 0) rfl rfl ?_
        have nb29 : ¬ nI (sk t z a23) = -1 := nI_ne (by first | omega | exact Nat.lt_of_le_of_lt (sk_z (t := t) ha23).2.1 (by omega))
        refine V_aload_n 33 0 rfl _ rfl rfl dX11_readUnit_32 rfl ?_
        refine V_dup 34 rfl dX11_readUnit_33 rfl ?_
        refine V_getI 37 69 11 7 (nI (o + 1)) (show lx _ _ _ _ 69 7 = _ from by rw [lx_69 (by decide) (by decide) (by decide)]; exact ox_7) flX11_163 rfl rfl rfl (by decide) dX11_readUnit_34 rfl ?_
        refine V_iconst 38 (1) rfl dX11_readUnit_37 rfl ?_
        refine V_isub 39 dX11_readUnit_38 rfl ?_
        refine V_rw (nI_pred o) ?_
        refine V_putI 42 69 11 7 flX11_163 rfl rfl rfl (by decide) rfl dX11_readUnit_39 rfl ?_
        rw [lx_up (fun _ => by decide), ox_ox]
        refine V_goto 154 rfl dX11_readUnit_42 ?_
        refine V_ret_v rfl (Nat.le_of_ble_eq_true rfl) (fun h => absurd h (by decide)) (Nat.le_of_ble_eq_true rfl) (hb 1 _ _ _ ((if_neg nd).trans ((if_pos (Or.inr (Or.inr c40))).trans ((if_pos c40).trans ((bd_ok (show pSum (pUnit t z lev) t z (nx t z p) = _ from by rw [← en]; exact eq23)).trans (bd_no (show pSig t z 41 p23 = .inl (1, sk t z a23) from by rw [← es23]; exact e29)))))) (by decide) (by decide) (by omega) (sk_z ha23).2.1 hF23) dX11_readUnit_154
    · refine Kq_v (k' := 0) (sl' := 0) rfl rfl ?_
      have hT23 := hF23.T hT
      have nb23 : ¬ nI q23 = -1 := nI_ne (by omega)
      refine V_aload_n 27 0 rfl _ rfl rfl dX11_readUnit_26 rfl ?_
      refine V_bipush 29 (41) rfl dX11_readUnit_27 rfl ?_
      refine V_callV (K' := 0) (S' := 0) 32 69 11 1 [.int 41] mkX11_sign lkX11_242 (by decide) rfl rfl (by decide) rfl (Nat.le_of_ble_eq_true rfl) (Nat.le_of_ble_eq_true rfl) (Nat.le_of_ble_eq_true rfl) (Nat.le_of_ble_eq_true rfl) rfl rfl dX11_readUnit_29 rfl (c_X11_sign (c := 41) hRM (TxM.ox (o := o + 1) hT23) (by decide) (by decide) ha23 (fun _ => ?_) (fun e _ _ => absurd e nb23) (fun e _ => absurd e nb23))
      refine Kq_v (k' := 0) (sl' := 0) rfl rfl ?_
      refine V_aload_n 33 0 rfl _ rfl rfl dX11_readUnit_32 rfl ?_
      refine V_dup 34 rfl dX11_readUnit_33 rfl ?_
      refine V_getI 37 69 11 7 (nI (o + 1)) (show lx _ _ _ _ 69 7 = _ from by rw [lx_69 (by decide) (by decide) (by decide)]; exact ox_7) flX11_163 rfl rfl rfl (by decide) dX11_readUnit_34 rfl ?_
      refine V_iconst 38 (1) rfl dX11_readUnit_37 rfl ?_
      refine V_isub 39 dX11_readUnit_38 rfl ?_
      refine V_rw (nI_pred o) ?_
      refine V_putI 42 69 11 7 flX11_163 rfl rfl rfl (by decide) rfl dX11_readUnit_39 rfl ?_
      rw [lx_up (fun _ => by decide), ox_ox]
      refine V_goto 154 rfl dX11_readUnit_42 ?_
      refine V_ret_v rfl (Nat.le_of_ble_eq_true rfl) (fun h => absurd h (by decide)) (Nat.le_of_ble_eq_true rfl) (hb _ _ _ _ ((if_neg nd).trans ((if_pos (Or.inr (Or.inr c40))).trans ((if_pos c40).trans (bd_no (show pSum (pUnit t z lev) t z (nx t z p) = _ from by rw [← en]; exact eq23))))) hk23 hk323 hq23 ha23 hF23) dX11_readUnit_154
  · by_cases cd : p < z ∧ dg (t p) = true
    · have cz := cd.1
      refine V_aload_n 1 0 rfl _ rfl rfl dX11_readUnit_0 rfl ?_
      refine V_callV (K' := 0) (S' := 0) 4 69 11 0 [] mkX11_fine lkX11_152 (by decide) rfl rfl (by decide) rfl (Nat.le_of_ble_eq_true rfl) (Nat.le_of_ble_eq_true rfl) (Nat.le_of_ble_eq_true rfl) (Nat.le_of_ble_eq_true rfl) rfl rfl dX11_readUnit_1 rfl (c_X11_fine (fun _ => ?_) (fun e => absurd rfl e))
      refine Kq_i (k' := 0) (sl' := 0) rfl rfl ?_
      refine V_if_ne 8 7 rfl dX11_readUnit_4 rfl (fun c4 => ?_) (fun c4 => absurd c4 (by decide))
      refine V_aload_n 9 0 rfl _ rfl rfl dX11_readUnit_8 rfl ?_
      refine V_callV (K' := 0) (S' := 0) 12 69 11 0 [] mkX11_here lkX11_135 (by decide) rfl rfl (by decide) rfl (Nat.le_of_ble_eq_true rfl) (Nat.le_of_ble_eq_true rfl) (Nat.le_of_ble_eq_true rfl) (Nat.le_of_ble_eq_true rfl) rfl rfl dX11_readUnit_9 rfl (c_X11_here hRM (TxM.ox (o := o) hT) ha ?_)
      rw [← ep]
      rw [if_pos cz]
      refine Kq_i (k' := 0) (sl' := 0) rfl rfl ?_
      refine V_bipush 14 (40) rfl dX11_readUnit_12 rfl ?_
      refine V_icmp_ne 45 17 rfl dX11_readUnit_14 rfl (fun c14 => ?_) (fun c14 => absurd ((nI_eq (b := 40) (by have := hT.2.2.2 p; omega) (by decide)).mp c14) (fun e => c40 ⟨cz, e⟩))
      refine V_aload_n 46 0 rfl _ rfl rfl dX11_readUnit_45 rfl ?_
      refine V_callV (K' := 0) (S' := 0) 49 69 11 0 [] mkX11_here lkX11_135 (by decide) rfl rfl (by decide) rfl (Nat.le_of_ble_eq_true rfl) (Nat.le_of_ble_eq_true rfl) (Nat.le_of_ble_eq_true rfl) (Nat.le_of_ble_eq_true rfl) rfl rfl dX11_readUnit_46 rfl (c_X11_here hRM (TxM.ox (o := o) hT) hs2 ?_)
      rw [esk]
      rw [if_pos cz]
      refine Kq_i (k' := 0) (sl' := 0) rfl rfl ?_
      refine V_callS (K' := 0) (S' := 0) 52 1 [.int (nI (t p))] mkX11_isDigit lkX11_156 rfl (Nat.le_of_ble_eq_true rfl) (Nat.le_of_ble_eq_true rfl) (Nat.le_of_ble_eq_true rfl) (Nat.le_of_ble_eq_true rfl) rfl rfl dX11_readUnit_49 rfl (c_X11_isDigit (fun e3 e4 => ?_) (fun e3 => absurd ⟨nI_le (a := 48) (dg_iff.mp cd.2).1 (by have := hT.2.2.2 p; omega), nI_le (b := 57) (dg_iff.mp cd.2).2 (by omega)⟩ e3))
      refine Kq_i (k' := 0) (sl' := 0) rfl rfl ?_
      refine V_if_eq 71 55 rfl dX11_readUnit_52 rfl (fun c52 => absurd c52 (by decide)) (fun c52 => ?_)
      refine V_aload_n 56 0 rfl _ rfl rfl dX11_readUnit_55 rfl ?_
      refine V_iconst 57 (0) rfl dX11_readUnit_56 rfl ?_
      refine V_aload_n 58 0 rfl _ rfl rfl dX11_readUnit_57 rfl ?_
      refine V_iconst 59 (0) rfl dX11_readUnit_58 rfl ?_
      refine V_sipush 62 (999) rfl dX11_readUnit_59 rfl ?_
      refine V_callV (K' := 0) (S' := 0) 65 69 11 2 [.int 0, .int 999] mkX11_readNumber lkX11_212 (by decide) rfl rfl (by decide) rfl (Nat.le_of_ble_eq_true rfl) (Nat.le_of_ble_eq_true rfl) (Nat.le_of_ble_eq_true rfl) (Nat.le_of_ble_eq_true rfl) rfl rfl dX11_readUnit_62 rfl (c_X11_readNumber (lo := 0) (cnt := 1000) hRM (TxM.ox (o := o) hT) (by decide) (by decide) (hh_lit 999 (by decide)) hs2 (fun e => absurd rfl e) (fun v62 _ e62 => ?_) (fun k62 a62 ha62 _ e62 => ?_))
      · rw [esk] at e62 ⊢
        refine Kq_i (k' := 0) (sl' := 0) rfl rfl ?_
        obtain ⟨-, -, lo62, hi62, -, -, lt62, hz62⟩ := pNum_ok e62
        have hj65 := em_c (v := v62) hNB (by omega)
        refine V_callV (K' := 0) (S' := 0) 68 69 11 2 [.int 0, .int (nI v62)] mkX11_emit lkX11_255 (by decide) rfl rfl (by decide) rfl (Nat.le_of_ble_eq_true rfl) (Nat.le_of_ble_eq_true rfl) (Nat.le_of_ble_eq_true rfl) (Nat.le_of_ble_eq_true rfl) rfl rfl dX11_readUnit_65 rfl (c_X11_emit hRM hNB.1 (by omega) ?_)
        refine Kq_v (k' := 0) (sl' := 0) rfl rfl ?_
        refine V_goto 154 rfl dX11_readUnit_68 ?_
        refine V_ret_v rfl (Nat.le_of_ble_eq_true rfl) (fun h => absurd h (by decide)) (Nat.le_of_ble_eq_true rfl) (hk _ _ _ _ _ ((if_pos cd).trans (bd_ok e62)) lt62 hz62 (enF_z hs2).2.1 rfl (by omega) (by omega) hj65.1 hj65.2 em_ex em_fr) dX11_readUnit_154
      · rw [esk] at e62 ⊢
        refine Kq_i (k' := 0) (sl' := 0) rfl rfl ?_
        have kk62 := pNum_k e62
        have nb62 : ¬ nI p = -1 := nI_ne (by omega)
        refine V_callV (K' := 0) (S' := 0) 68 69 11 2 [.int 0, .int 0] mkX11_emit lkX11_255 (by decide) rfl rfl (by decide) rfl (Nat.le_of_ble_eq_true rfl) (Nat.le_of_ble_eq_true rfl) (Nat.le_of_ble_eq_true rfl) (Nat.le_of_ble_eq_true rfl) rfl rfl dX11_readUnit_65 rfl (c_X11_emitF nb62 ?_)
        refine Kq_v (k' := 0) (sl' := 0) rfl rfl ?_
        refine V_goto 154 rfl dX11_readUnit_68 ?_
        refine V_ret_v rfl (Nat.le_of_ble_eq_true rfl) (fun h => absurd h (by decide)) (Nat.le_of_ble_eq_true rfl) (hb _ _ _ _ ((if_pos cd).trans (bd_no e62)) kk62.1 kk62.2 hs2 ha62 FrN.rf) dX11_readUnit_154
    · by_cases cw : wcF t z p = ocF 5 ∨ wcF t z p = ocF 6
      · have hw : p < z ∧ sc le_ t z p = enF t z p := cw.elim (fun q => (en_wd hs2 (wdo 5 (by decide) (by decide) (by decide)) q).symm) (fun q => (en_wd hs2 (wdo 6 (by decide) (by decide) (by decide)) q).symm)
        have cz := hw.1
        by_cases w5 : wcF t z p = ocF 5
        · have hy : p + 5 = enF t z p := by have q := ((wc_iff hs2 (wdo 5 (by decide) (by decide) (by decide))).mp w5).1; rw [show stL 5 = 5 from rfl] at q; omega
          refine V_aload_n 1 0 rfl _ rfl rfl dX11_readUnit_0 rfl ?_
          refine V_callV (K' := 0) (S' := 0) 4 69 11 0 [] mkX11_fine lkX11_152 (by decide) rfl rfl (by decide) rfl (Nat.le_of_ble_eq_true rfl) (Nat.le_of_ble_eq_true rfl) (Nat.le_of_ble_eq_true rfl) (Nat.le_of_ble_eq_true rfl) rfl rfl dX11_readUnit_1 rfl (c_X11_fine (fun _ => ?_) (fun e => absurd rfl e))
          refine Kq_i (k' := 0) (sl' := 0) rfl rfl ?_
          refine V_if_ne 8 7 rfl dX11_readUnit_4 rfl (fun c4 => ?_) (fun c4 => absurd c4 (by decide))
          refine V_aload_n 9 0 rfl _ rfl rfl dX11_readUnit_8 rfl ?_
          refine V_callV (K' := 0) (S' := 0) 12 69 11 0 [] mkX11_here lkX11_135 (by decide) rfl rfl (by decide) rfl (Nat.le_of_ble_eq_true rfl) (Nat.le_of_ble_eq_true rfl) (Nat.le_of_ble_eq_true rfl) (Nat.le_of_ble_eq_true rfl) rfl rfl dX11_readUnit_9 rfl (c_X11_here hRM (TxM.ox (o := o) hT) ha ?_)
          rw [← ep]
          rw [if_pos cz]
          refine Kq_i (k' := 0) (sl' := 0) rfl rfl ?_
          refine V_bipush 14 (40) rfl dX11_readUnit_12 rfl ?_
          refine V_icmp_ne 45 17 rfl dX11_readUnit_14 rfl (fun c14 => ?_) (fun c14 => absurd ((nI_eq (b := 40) (by have := hT.2.2.2 p; omega) (by decide)).mp c14) (fun e => c40 ⟨cz, e⟩))
          refine V_aload_n 46 0 rfl _ rfl rfl dX11_readUnit_45 rfl ?_
          refine V_callV (K' := 0) (S' := 0) 49 69 11 0 [] mkX11_here lkX11_135 (by decide) rfl rfl (by decide) rfl (Nat.le_of_ble_eq_true rfl) (Nat.le_of_ble_eq_true rfl) (Nat.le_of_ble_eq_true rfl) (Nat.le_of_ble_eq_true rfl) rfl rfl dX11_readUnit_46 rfl (c_X11_here hRM (TxM.ox (o := o) hT) hs2 ?_)
          rw [esk]
          rw [if_pos cz]
          refine Kq_i (k' := 0) (sl' := 0) rfl rfl ?_
          refine V_callS (K' := 0) (S' := 0) 52 1 [.int (nI (t p))] mkX11_isDigit lkX11_156 rfl (Nat.le_of_ble_eq_true rfl) (Nat.le_of_ble_eq_true rfl) (Nat.le_of_ble_eq_true rfl) (Nat.le_of_ble_eq_true rfl) rfl rfl dX11_readUnit_49 rfl (c_X11_isDigit (fun e3 e4 => absurd ⟨cz, dg_iff.mpr ⟨(nI_leI (a := 48) (by omega) (by have := hT.2.2.2 p; omega)).mp e3, (nI_leI (b := 57) (by have := hT.2.2.2 p; omega) (by omega)).mp e4⟩⟩ cd) (fun e3 => ?_))
          refine Kq_i (k' := 0) (sl' := 0) rfl rfl ?_
          refine V_if_eq 71 55 rfl dX11_readUnit_52 rfl (fun c52 => ?_) (fun c52 => absurd c52 (by decide))
          refine V_aload_n 72 0 rfl _ rfl rfl dX11_readUnit_71 rfl ?_
          refine V_callV (K' := 0) (S' := 0) 75 69 11 0 [] mkX11_word lkX11_227 (by decide) rfl rfl (by decide) rfl (Nat.le_of_ble_eq_true rfl) (Nat.le_of_ble_eq_true rfl) (Nat.le_of_ble_eq_true rfl) (Nat.le_of_ble_eq_true rfl) rfl rfl dX11_readUnit_72 rfl (c_X11_word hRM (TxM.ox (o := o) hT) hs2 ?_)
          rw [esk]
          refine Kq_i (k' := 0) (sl' := 0) rfl rfl ?_
          refine V_ldcSw 78 28 rfl rfl dX11_readUnit_75 rfl ?_
          refine V_callS (K' := 0) (S' := 0) 81 1 [sr G 28] mkX11_of lkX11_204 rfl (Nat.le_of_ble_eq_true rfl) (Nat.le_of_ble_eq_true rfl) (Nat.le_of_ble_eq_true rfl) (Nat.le_of_ble_eq_true rfl) rfl rfl dX11_readUnit_78 rfl (c_X11_of (wdo 28 (by decide) (by decide) (by decide)) ?_)
          refine Kq_i (k' := 0) (sl' := 0) rfl rfl ?_
          refine V_icmp_ne 94 84 rfl dX11_readUnit_81 rfl (fun c81 => absurd ((wN (t := t) hs2 (wdo 28 (by decide) (by decide) (by decide)) o5).mpr w5) c81) (fun c81 => ?_)
          refine V_aload_n 85 0 rfl _ rfl rfl dX11_readUnit_84 rfl ?_
          refine V_iconst 86 (5) rfl dX11_readUnit_85 rfl ?_
          refine V_bipush 88 (6) rfl dX11_readUnit_86 rfl ?_
          refine V_callV (K' := 0) (S' := 0) 91 69 11 2 [.int 5, .int 6] mkX11_readTwo lkX11_284 (by decide) rfl rfl (by decide) rfl (Nat.le_of_ble_eq_true rfl) (Nat.le_of_ble_eq_true rfl) (Nat.le_of_ble_eq_true rfl) (Nat.le_of_ble_eq_true rfl) rfl rfl dX11_readUnit_88 rfl (c_X11_readTwo (o := o) (by omega) hU _ _ _ _ _ p n 5 6 _ (by omega) hRM hT h150 cz hy hn hNB (by decide) (by decide) (fun e2 p2 I2 a2 n2' e9 lt2 hp2 ha2 es2 hn2 hnn2 hNB2 hV2 hE2 hF2 => ?_) (fun k2 q2 I2 a2 e9 hk2 hk3 hq2 ha2 hF2 => ?_))
          · refine Kq_v (k' := 0) (sl' := 0) rfl rfl ?_
            refine V_goto 154 rfl dX11_readUnit_91 ?_
            refine V_ret_v rfl (Nat.le_of_ble_eq_true rfl) (fun h => absurd h (by decide)) (Nat.le_of_ble_eq_true rfl) (hk _ _ _ _ _ ((if_neg cd).trans ((if_pos (Or.inl w5)).trans ((if_neg c40).trans ((congrArg (fun kk => pPair (pSum (pUnit t z lev) t z) t z kk p) (if_pos w5)).trans e9)))) lt2 hp2 ha2 es2 hn2 hnn2 hNB2 hV2 hE2 hF2) dX11_readUnit_154
          · refine Kq_v (k' := 0) (sl' := 0) rfl rfl ?_
            refine V_goto 154 rfl dX11_readUnit_91 ?_
            refine V_ret_v rfl (Nat.le_of_ble_eq_true rfl) (fun h => absurd h (by decide)) (Nat.le_of_ble_eq_true rfl) (hb _ _ _ _ ((if_neg cd).trans ((if_pos (Or.inl w5)).trans ((if_neg c40).trans ((congrArg (fun kk => pPair (pSum (pUnit t z lev) t z) t z kk p) (if_pos w5)).trans e9)))) hk2 hk3 hq2 ha2 hF2) dX11_readUnit_154
        · have w6 : wcF t z p = ocF 6 := cw.elim (fun q => absurd q w5) id
          have hy : p + 4 = enF t z p := by have q := ((wc_iff hs2 (wdo 6 (by decide) (by decide) (by decide))).mp w6).1; rw [show stL 6 = 4 from rfl] at q; omega
          refine V_aload_n 1 0 rfl _ rfl rfl dX11_readUnit_0 rfl ?_
          refine V_callV (K' := 0) (S' := 0) 4 69 11 0 [] mkX11_fine lkX11_152 (by decide) rfl rfl (by decide) rfl (Nat.le_of_ble_eq_true rfl) (Nat.le_of_ble_eq_true rfl) (Nat.le_of_ble_eq_true rfl) (Nat.le_of_ble_eq_true rfl) rfl rfl dX11_readUnit_1 rfl (c_X11_fine (fun _ => ?_) (fun e => absurd rfl e))
          refine Kq_i (k' := 0) (sl' := 0) rfl rfl ?_
          refine V_if_ne 8 7 rfl dX11_readUnit_4 rfl (fun c4 => ?_) (fun c4 => absurd c4 (by decide))
          refine V_aload_n 9 0 rfl _ rfl rfl dX11_readUnit_8 rfl ?_
          refine V_callV (K' := 0) (S' := 0) 12 69 11 0 [] mkX11_here lkX11_135 (by decide) rfl rfl (by decide) rfl (Nat.le_of_ble_eq_true rfl) (Nat.le_of_ble_eq_true rfl) (Nat.le_of_ble_eq_true rfl) (Nat.le_of_ble_eq_true rfl) rfl rfl dX11_readUnit_9 rfl (c_X11_here hRM (TxM.ox (o := o) hT) ha ?_)
          rw [← ep]
          rw [if_pos cz]
          refine Kq_i (k' := 0) (sl' := 0) rfl rfl ?_
          refine V_bipush 14 (40) rfl dX11_readUnit_12 rfl ?_
          refine V_icmp_ne 45 17 rfl dX11_readUnit_14 rfl (fun c14 => ?_) (fun c14 => absurd ((nI_eq (b := 40) (by have := hT.2.2.2 p; omega) (by decide)).mp c14) (fun e => c40 ⟨cz, e⟩))
          refine V_aload_n 46 0 rfl _ rfl rfl dX11_readUnit_45 rfl ?_
          refine V_callV (K' := 0) (S' := 0) 49 69 11 0 [] mkX11_here lkX11_135 (by decide) rfl rfl (by decide) rfl (Nat.le_of_ble_eq_true rfl) (Nat.le_of_ble_eq_true rfl) (Nat.le_of_ble_eq_true rfl) (Nat.le_of_ble_eq_true rfl) rfl rfl dX11_readUnit_46 rfl (c_X11_here hRM (TxM.ox (o := o) hT) hs2 ?_)
          rw [esk]
          rw [if_pos cz]
          refine Kq_i (k' := 0) (sl' := 0) rfl rfl ?_
          refine V_callS (K' := 0) (S' := 0) 52 1 [.int (nI (t p))] mkX11_isDigit lkX11_156 rfl (Nat.le_of_ble_eq_true rfl) (Nat.le_of_ble_eq_true rfl) (Nat.le_of_ble_eq_true rfl) (Nat.le_of_ble_eq_true rfl) rfl rfl dX11_readUnit_49 rfl (c_X11_isDigit (fun e3 e4 => absurd ⟨cz, dg_iff.mpr ⟨(nI_leI (a := 48) (by omega) (by have := hT.2.2.2 p; omega)).mp e3, (nI_leI (b := 57) (by have := hT.2.2.2 p; omega) (by omega)).mp e4⟩⟩ cd) (fun e3 => ?_))
          refine Kq_i (k' := 0) (sl' := 0) rfl rfl ?_
          refine V_if_eq 71 55 rfl dX11_readUnit_52 rfl (fun c52 => ?_) (fun c52 => absurd c52 (by decide))
          refine V_aload_n 72 0 rfl _ rfl rfl dX11_readUnit_71 rfl ?_
          refine V_callV (K' := 0) (S' := 0) 75 69 11 0 [] mkX11_word lkX11_227 (by decide) rfl rfl (by decide) rfl (Nat.le_of_ble_eq_true rfl) (Nat.le_of_ble_eq_true rfl) (Nat.le_of_ble_eq_true rfl) (Nat.le_of_ble_eq_true rfl) rfl rfl dX11_readUnit_72 rfl (c_X11_word hRM (TxM.ox (o := o) hT) hs2 ?_)
          rw [esk]
          refine Kq_i (k' := 0) (sl' := 0) rfl rfl ?_
          refine V_ldcSw 78 28 rfl rfl dX11_readUnit_75 rfl ?_
          refine V_callS (K' := 0) (S' := 0) 81 1 [sr G 28] mkX11_of lkX11_204 rfl (Nat.le_of_ble_eq_true rfl) (Nat.le_of_ble_eq_true rfl) (Nat.le_of_ble_eq_true rfl) (Nat.le_of_ble_eq_true rfl) rfl rfl dX11_readUnit_78 rfl (c_X11_of (wdo 28 (by decide) (by decide) (by decide)) ?_)
          refine Kq_i (k' := 0) (sl' := 0) rfl rfl ?_
          refine V_icmp_ne 94 84 rfl dX11_readUnit_81 rfl (fun c81 => ?_) (fun c81 => absurd ((wN (t := t) hs2 (wdo 28 (by decide) (by decide) (by decide)) o5).mp c81) w5)
          refine V_aload_n 95 0 rfl _ rfl rfl dX11_readUnit_94 rfl ?_
          refine V_callV (K' := 0) (S' := 0) 98 69 11 0 [] mkX11_word lkX11_227 (by decide) rfl rfl (by decide) rfl (Nat.le_of_ble_eq_true rfl) (Nat.le_of_ble_eq_true rfl) (Nat.le_of_ble_eq_true rfl) (Nat.le_of_ble_eq_true rfl) rfl rfl dX11_readUnit_95 rfl (c_X11_word hRM (TxM.ox (o := o) hT) hs2 ?_)
          rw [esk]
          refine Kq_i (k' := 0) (sl' := 0) rfl rfl ?_
          refine V_ldcSw 101 29 rfl rfl dX11_readUnit_98 rfl ?_
          refine V_callS (K' := 0) (S' := 0) 104 1 [sr G 29] mkX11_of lkX11_204 rfl (Nat.le_of_ble_eq_true rfl) (Nat.le_of_ble_eq_true rfl) (Nat.le_of_ble_eq_true rfl) (Nat.le_of_ble_eq_true rfl) rfl rfl dX11_readUnit_101 rfl (c_X11_of (wdo 29 (by decide) (by decide) (by decide)) ?_)
          refine Kq_i (k' := 0) (sl' := 0) rfl rfl ?_
          refine V_icmp_ne 117 107 rfl dX11_readUnit_104 rfl (fun c104 => absurd ((wN (t := t) hs2 (wdo 29 (by decide) (by decide) (by decide)) o6).mpr w6) c104) (fun c104 => ?_)
          refine V_aload_n 108 0 rfl _ rfl rfl dX11_readUnit_107 rfl ?_
          refine V_iconst 109 (4) rfl dX11_readUnit_108 rfl ?_
          refine V_bipush 111 (7) rfl dX11_readUnit_109 rfl ?_
          refine V_callV (K' := 0) (S' := 0) 114 69 11 2 [.int 4, .int 7] mkX11_readTwo lkX11_284 (by decide) rfl rfl (by decide) rfl (Nat.le_of_ble_eq_true rfl) (Nat.le_of_ble_eq_true rfl) (Nat.le_of_ble_eq_true rfl) (Nat.le_of_ble_eq_true rfl) rfl rfl dX11_readUnit_111 rfl (c_X11_readTwo (o := o) (by omega) hU _ _ _ _ _ p n 4 7 _ (by omega) hRM hT h150 cz hy hn hNB (by decide) (by decide) (fun e2 p2 I2 a2 n2' e9 lt2 hp2 ha2 es2 hn2 hnn2 hNB2 hV2 hE2 hF2 => ?_) (fun k2 q2 I2 a2 e9 hk2 hk3 hq2 ha2 hF2 => ?_))
          · refine Kq_v (k' := 0) (sl' := 0) rfl rfl ?_
            refine V_goto 154 rfl dX11_readUnit_114 ?_
            refine V_ret_v rfl (Nat.le_of_ble_eq_true rfl) (fun h => absurd h (by decide)) (Nat.le_of_ble_eq_true rfl) (hk _ _ _ _ _ ((if_neg cd).trans ((if_pos (Or.inr (Or.inl w6))).trans ((if_neg c40).trans ((congrArg (fun kk => pPair (pSum (pUnit t z lev) t z) t z kk p) (if_neg w5)).trans e9)))) lt2 hp2 ha2 es2 hn2 hnn2 hNB2 hV2 hE2 hF2) dX11_readUnit_154
          · refine Kq_v (k' := 0) (sl' := 0) rfl rfl ?_
            refine V_goto 154 rfl dX11_readUnit_114 ?_
            refine V_ret_v rfl (Nat.le_of_ble_eq_true rfl) (fun h => absurd h (by decide)) (Nat.le_of_ble_eq_true rfl) (hb _ _ _ _ ((if_neg cd).trans ((if_pos (Or.inr (Or.inl w6))).trans ((if_neg c40).trans ((congrArg (fun kk => pPair (pSum (pUnit t z lev) t z) t z kk p) (if_neg w5)).trans e9)))) hk2 hk3 hq2 ha2 hF2) dX11_readUnit_154
      · have w5 : ¬ wcF t z p = ocF 5 := fun q => cw (Or.inl q)
        have w6 : ¬ wcF t z p = ocF 6 := fun q => cw (Or.inr q)
        have nop : ¬ (wcF t z p = ocF 5 ∨ wcF t z p = ocF 6 ∨ (p < z ∧ t p = 40)) := fun q => q.elim w5 (fun q => q.elim w6 c40)
        by_cases cz : p < z
        · cases ef : ftF t z p with
          | none =>
            refine V_aload_n 1 0 rfl _ rfl rfl dX11_readUnit_0 rfl ?_
            refine V_callV (K' := 0) (S' := 0) 4 69 11 0 [] mkX11_fine lkX11_152 (by decide) rfl rfl (by decide) rfl (Nat.le_of_ble_eq_true rfl) (Nat.le_of_ble_eq_true rfl) (Nat.le_of_ble_eq_true rfl) (Nat.le_of_ble_eq_true rfl) rfl rfl dX11_readUnit_1 rfl (c_X11_fine (fun _ => ?_) (fun e => absurd rfl e))
            refine Kq_i (k' := 0) (sl' := 0) rfl rfl ?_
            refine V_if_ne 8 7 rfl dX11_readUnit_4 rfl (fun c4 => ?_) (fun c4 => absurd c4 (by decide))
            refine V_aload_n 9 0 rfl _ rfl rfl dX11_readUnit_8 rfl ?_
            refine V_callV (K' := 0) (S' := 0) 12 69 11 0 [] mkX11_here lkX11_135 (by decide) rfl rfl (by decide) rfl (Nat.le_of_ble_eq_true rfl) (Nat.le_of_ble_eq_true rfl) (Nat.le_of_ble_eq_true rfl) (Nat.le_of_ble_eq_true rfl) rfl rfl dX11_readUnit_9 rfl (c_X11_here hRM (TxM.ox (o := o) hT) ha ?_)
            rw [← ep]
            rw [if_pos cz]
            refine Kq_i (k' := 0) (sl' := 0) rfl rfl ?_
            refine V_bipush 14 (40) rfl dX11_readUnit_12 rfl ?_
            refine V_icmp_ne 45 17 rfl dX11_readUnit_14 rfl (fun c14 => ?_) (fun c14 => absurd ((nI_eq (b := 40) (by have := hT.2.2.2 p; omega) (by decide)).mp c14) (fun e => c40 ⟨cz, e⟩))
            refine V_aload_n 46 0 rfl _ rfl rfl dX11_readUnit_45 rfl ?_
            refine V_callV (K' := 0) (S' := 0) 49 69 11 0 [] mkX11_here lkX11_135 (by decide) rfl rfl (by decide) rfl (Nat.le_of_ble_eq_true rfl) (Nat.le_of_ble_eq_true rfl) (Nat.le_of_ble_eq_true rfl) (Nat.le_of_ble_eq_true rfl) rfl rfl dX11_readUnit_46 rfl (c_X11_here hRM (TxM.ox (o := o) hT) hs2 ?_)
            rw [esk]
            rw [if_pos cz]
            refine Kq_i (k' := 0) (sl' := 0) rfl rfl ?_
            refine V_callS (K' := 0) (S' := 0) 52 1 [.int (nI (t p))] mkX11_isDigit lkX11_156 rfl (Nat.le_of_ble_eq_true rfl) (Nat.le_of_ble_eq_true rfl) (Nat.le_of_ble_eq_true rfl) (Nat.le_of_ble_eq_true rfl) rfl rfl dX11_readUnit_49 rfl (c_X11_isDigit (fun e3 e4 => absurd ⟨cz, dg_iff.mpr ⟨(nI_leI (a := 48) (by omega) (by have := hT.2.2.2 p; omega)).mp e3, (nI_leI (b := 57) (by have := hT.2.2.2 p; omega) (by omega)).mp e4⟩⟩ cd) (fun e3 => ?_))
            refine Kq_i (k' := 0) (sl' := 0) rfl rfl ?_
            refine V_if_eq 71 55 rfl dX11_readUnit_52 rfl (fun c52 => ?_) (fun c52 => absurd c52 (by decide))
            refine V_aload_n 72 0 rfl _ rfl rfl dX11_readUnit_71 rfl ?_
            refine V_callV (K' := 0) (S' := 0) 75 69 11 0 [] mkX11_word lkX11_227 (by decide) rfl rfl (by decide) rfl (Nat.le_of_ble_eq_true rfl) (Nat.le_of_ble_eq_true rfl) (Nat.le_of_ble_eq_true rfl) (Nat.le_of_ble_eq_true rfl) rfl rfl dX11_readUnit_72 rfl (c_X11_word hRM (TxM.ox (o := o) hT) hs2 ?_)
            rw [esk]
            refine Kq_i (k' := 0) (sl' := 0) rfl rfl ?_
            refine V_ldcSw 78 28 rfl rfl dX11_readUnit_75 rfl ?_
            refine V_callS (K' := 0) (S' := 0) 81 1 [sr G 28] mkX11_of lkX11_204 rfl (Nat.le_of_ble_eq_true rfl) (Nat.le_of_ble_eq_true rfl) (Nat.le_of_ble_eq_true rfl) (Nat.le_of_ble_eq_true rfl) rfl rfl dX11_readUnit_78 rfl (c_X11_of (wdo 28 (by decide) (by decide) (by decide)) ?_)
            refine Kq_i (k' := 0) (sl' := 0) rfl rfl ?_
            refine V_icmp_ne 94 84 rfl dX11_readUnit_81 rfl (fun c81 => ?_) (fun c81 => absurd ((wN (t := t) hs2 (wdo 28 (by decide) (by decide) (by decide)) o5).mp c81) w5)
            refine V_aload_n 95 0 rfl _ rfl rfl dX11_readUnit_94 rfl ?_
            refine V_callV (K' := 0) (S' := 0) 98 69 11 0 [] mkX11_word lkX11_227 (by decide) rfl rfl (by decide) rfl (Nat.le_of_ble_eq_true rfl) (Nat.le_of_ble_eq_true rfl) (Nat.le_of_ble_eq_true rfl) (Nat.le_of_ble_eq_true rfl) rfl rfl dX11_readUnit_95 rfl (c_X11_word hRM (TxM.ox (o := o) hT) hs2 ?_)
            rw [esk]
            refine Kq_i (k' := 0) (sl' := 0) rfl rfl ?_
            refine V_ldcSw 101 29 rfl rfl dX11_readUnit_98 rfl ?_
            refine V_callS (K' := 0) (S' := 0) 104 1 [sr G 29] mkX11_of lkX11_204 rfl (Nat.le_of_ble_eq_true rfl) (Nat.le_of_ble_eq_true rfl) (Nat.le_of_ble_eq_true rfl) (Nat.le_of_ble_eq_true rfl) rfl rfl dX11_readUnit_101 rfl (c_X11_of (wdo 29 (by decide) (by decide) (by decide)) ?_)
            refine Kq_i (k' := 0) (sl' := 0) rfl rfl ?_
            refine V_icmp_ne 117 107 rfl dX11_readUnit_104 rfl (fun c104 => ?_) (fun c104 => absurd ((wN (t := t) hs2 (wdo 29 (by decide) (by decide) (by decide)) o6).mp c104) w6)
            refine V_aload_n 118 0 rfl _ rfl rfl dX11_readUnit_117 rfl ?_
            refine V_callV (K' := 0) (S' := 0) 121 69 11 0 [] mkX11_factHere lkX11_289 (by decide) rfl rfl (by decide) rfl (Nat.le_of_ble_eq_true rfl) (Nat.le_of_ble_eq_true rfl) (Nat.le_of_ble_eq_true rfl) (Nat.le_of_ble_eq_true rfl) rfl rfl dX11_readUnit_118 rfl (c_X11_factHere hRM (TxM.ox (o := o) hT) hs2 ?_)
            rw [esk, ef]
            show Kq _ _ _ _ _ _ _ _ _ _ _ (.inl (some (.int (-1)))) _ _ _ _
            refine Kq_i (k' := 0) (sl' := 0) rfl rfl ?_
            refine V_istore_n 122 [(1, .int (-1)), (0, rf G 69)] (by decide) rfl rfl dX11_readUnit_121 rfl ?_
            refine V_iload_n 123 0 rfl rfl dX11_readUnit_122 rfl ?_
            refine V_iconst 124 (-1) rfl dX11_readUnit_123 rfl ?_
            refine V_icmp_ne 136 127 rfl dX11_readUnit_124 rfl (fun c124 => absurd c124 (by decide)) (fun c124 => ?_)
            refine V_aload_n 128 1 rfl _ rfl rfl dX11_readUnit_127 rfl ?_
            refine V_iconst 129 (1) rfl dX11_readUnit_128 rfl ?_
            refine V_aload_n 130 1 rfl _ rfl rfl dX11_readUnit_129 rfl ?_
            refine V_getI 133 69 11 4 (nI p) rfl flX11_129 rfl rfl rfl (by decide) dX11_readUnit_130 rfl ?_
            refine V_callV (K' := 0) (S' := 0) 136 69 11 2 [.int 1, .int (nI p)] mkX11_wrong lkX11_159 (by decide) rfl rfl (by decide) rfl (Nat.le_of_ble_eq_true rfl) (Nat.le_of_ble_eq_true rfl) (Nat.le_of_ble_eq_true rfl) (Nat.le_of_ble_eq_true rfl) rfl rfl dX11_readUnit_133 rfl (c_X11_wrong (kd := 1) (q := p) (fun e => absurd rfl e) (fun _ => ?_))
            refine Kq_v (k' := 0) (sl' := 0) rfl rfl ?_
            refine V_aload_n 137 1 rfl _ rfl rfl dX11_readUnit_136 rfl ?_
            refine V_callV (K' := 0) (S' := 0) 140 69 11 0 [] mkX11_fine lkX11_152 (by decide) rfl rfl (by decide) rfl (Nat.le_of_ble_eq_true rfl) (Nat.le_of_ble_eq_true rfl) (Nat.le_of_ble_eq_true rfl) (Nat.le_of_ble_eq_true rfl) rfl rfl dX11_readUnit_137 rfl (c_X11_fine (fun e => absurd e (nI_ne (by omega))) (fun _ => ?_))
            refine Kq_i (k' := 0) (sl' := 0) rfl rfl ?_
            refine V_if_ne 144 143 rfl dX11_readUnit_140 rfl (fun c140 => absurd c140 (by decide)) (fun c140 => ?_)
            refine V_ret_v rfl (Nat.le_of_ble_eq_true rfl) (fun h => absurd h (by decide)) (Nat.le_of_ble_eq_true rfl) (hb 1 p I p ((if_neg cd).trans ((if_neg nop).trans (by show pFact t z p = _; unfold pFact; rw [ef]))) (by decide) (by decide) hs2 hs2 FrN.rf) dX11_readUnit_143
          | some ft =>
            have hft := ftF_lt ef
            have wl := ft_word hs2 ef
            refine V_aload_n 1 0 rfl _ rfl rfl dX11_readUnit_0 rfl ?_
            refine V_callV (K' := 0) (S' := 0) 4 69 11 0 [] mkX11_fine lkX11_152 (by decide) rfl rfl (by decide) rfl (Nat.le_of_ble_eq_true rfl) (Nat.le_of_ble_eq_true rfl) (Nat.le_of_ble_eq_true rfl) (Nat.le_of_ble_eq_true rfl) rfl rfl dX11_readUnit_1 rfl (c_X11_fine (fun _ => ?_) (fun e => absurd rfl e))
            refine Kq_i (k' := 0) (sl' := 0) rfl rfl ?_
            refine V_if_ne 8 7 rfl dX11_readUnit_4 rfl (fun c4 => ?_) (fun c4 => absurd c4 (by decide))
            refine V_aload_n 9 0 rfl _ rfl rfl dX11_readUnit_8 rfl ?_
            refine V_callV (K' := 0) (S' := 0) 12 69 11 0 [] mkX11_here lkX11_135 (by decide) rfl rfl (by decide) rfl (Nat.le_of_ble_eq_true rfl) (Nat.le_of_ble_eq_true rfl) (Nat.le_of_ble_eq_true rfl) (Nat.le_of_ble_eq_true rfl) rfl rfl dX11_readUnit_9 rfl (c_X11_here hRM (TxM.ox (o := o) hT) ha ?_)
            rw [← ep]
            rw [if_pos cz]
            refine Kq_i (k' := 0) (sl' := 0) rfl rfl ?_
            refine V_bipush 14 (40) rfl dX11_readUnit_12 rfl ?_
            refine V_icmp_ne 45 17 rfl dX11_readUnit_14 rfl (fun c14 => ?_) (fun c14 => absurd ((nI_eq (b := 40) (by have := hT.2.2.2 p; omega) (by decide)).mp c14) (fun e => c40 ⟨cz, e⟩))
            refine V_aload_n 46 0 rfl _ rfl rfl dX11_readUnit_45 rfl ?_
            refine V_callV (K' := 0) (S' := 0) 49 69 11 0 [] mkX11_here lkX11_135 (by decide) rfl rfl (by decide) rfl (Nat.le_of_ble_eq_true rfl) (Nat.le_of_ble_eq_true rfl) (Nat.le_of_ble_eq_true rfl) (Nat.le_of_ble_eq_true rfl) rfl rfl dX11_readUnit_46 rfl (c_X11_here hRM (TxM.ox (o := o) hT) hs2 ?_)
            rw [esk]
            rw [if_pos cz]
            refine Kq_i (k' := 0) (sl' := 0) rfl rfl ?_
            refine V_callS (K' := 0) (S' := 0) 52 1 [.int (nI (t p))] mkX11_isDigit lkX11_156 rfl (Nat.le_of_ble_eq_true rfl) (Nat.le_of_ble_eq_true rfl) (Nat.le_of_ble_eq_true rfl) (Nat.le_of_ble_eq_true rfl) rfl rfl dX11_readUnit_49 rfl (c_X11_isDigit (fun e3 e4 => absurd ⟨cz, dg_iff.mpr ⟨(nI_leI (a := 48) (by omega) (by have := hT.2.2.2 p; omega)).mp e3, (nI_leI (b := 57) (by have := hT.2.2.2 p; omega) (by omega)).mp e4⟩⟩ cd) (fun e3 => ?_))
            refine Kq_i (k' := 0) (sl' := 0) rfl rfl ?_
            refine V_if_eq 71 55 rfl dX11_readUnit_52 rfl (fun c52 => ?_) (fun c52 => absurd c52 (by decide))
            refine V_aload_n 72 0 rfl _ rfl rfl dX11_readUnit_71 rfl ?_
            refine V_callV (K' := 0) (S' := 0) 75 69 11 0 [] mkX11_word lkX11_227 (by decide) rfl rfl (by decide) rfl (Nat.le_of_ble_eq_true rfl) (Nat.le_of_ble_eq_true rfl) (Nat.le_of_ble_eq_true rfl) (Nat.le_of_ble_eq_true rfl) rfl rfl dX11_readUnit_72 rfl (c_X11_word hRM (TxM.ox (o := o) hT) hs2 ?_)
            rw [esk]
            refine Kq_i (k' := 0) (sl' := 0) rfl rfl ?_
            refine V_ldcSw 78 28 rfl rfl dX11_readUnit_75 rfl ?_
            refine V_callS (K' := 0) (S' := 0) 81 1 [sr G 28] mkX11_of lkX11_204 rfl (Nat.le_of_ble_eq_true rfl) (Nat.le_of_ble_eq_true rfl) (Nat.le_of_ble_eq_true rfl) (Nat.le_of_ble_eq_true rfl) rfl rfl dX11_readUnit_78 rfl (c_X11_of (wdo 28 (by decide) (by decide) (by decide)) ?_)
            refine Kq_i (k' := 0) (sl' := 0) rfl rfl ?_
            refine V_icmp_ne 94 84 rfl dX11_readUnit_81 rfl (fun c81 => ?_) (fun c81 => absurd ((wN (t := t) hs2 (wdo 28 (by decide) (by decide) (by decide)) o5).mp c81) w5)
            refine V_aload_n 95 0 rfl _ rfl rfl dX11_readUnit_94 rfl ?_
            refine V_callV (K' := 0) (S' := 0) 98 69 11 0 [] mkX11_word lkX11_227 (by decide) rfl rfl (by decide) rfl (Nat.le_of_ble_eq_true rfl) (Nat.le_of_ble_eq_true rfl) (Nat.le_of_ble_eq_true rfl) (Nat.le_of_ble_eq_true rfl) rfl rfl dX11_readUnit_95 rfl (c_X11_word hRM (TxM.ox (o := o) hT) hs2 ?_)
            rw [esk]
            refine Kq_i (k' := 0) (sl' := 0) rfl rfl ?_
            refine V_ldcSw 101 29 rfl rfl dX11_readUnit_98 rfl ?_
            refine V_callS (K' := 0) (S' := 0) 104 1 [sr G 29] mkX11_of lkX11_204 rfl (Nat.le_of_ble_eq_true rfl) (Nat.le_of_ble_eq_true rfl) (Nat.le_of_ble_eq_true rfl) (Nat.le_of_ble_eq_true rfl) rfl rfl dX11_readUnit_101 rfl (c_X11_of (wdo 29 (by decide) (by decide) (by decide)) ?_)
            refine Kq_i (k' := 0) (sl' := 0) rfl rfl ?_
            refine V_icmp_ne 117 107 rfl dX11_readUnit_104 rfl (fun c104 => ?_) (fun c104 => absurd ((wN (t := t) hs2 (wdo 29 (by decide) (by decide) (by decide)) o6).mp c104) w6)
            refine V_aload_n 118 0 rfl _ rfl rfl dX11_readUnit_117 rfl ?_
            refine V_callV (K' := 0) (S' := 0) 121 69 11 0 [] mkX11_factHere lkX11_289 (by decide) rfl rfl (by decide) rfl (Nat.le_of_ble_eq_true rfl) (Nat.le_of_ble_eq_true rfl) (Nat.le_of_ble_eq_true rfl) (Nat.le_of_ble_eq_true rfl) rfl rfl dX11_readUnit_118 rfl (c_X11_factHere hRM (TxM.ox (o := o) hT) hs2 ?_)
            rw [esk, ef]
            show Kq _ _ _ _ _ _ _ _ _ _ _ (.inl (some (.int (nI ft)))) _ _ _ _
            refine Kq_i (k' := 0) (sl' := 0) rfl rfl ?_
            refine V_istore_n 122 [(1, .int (nI ft)), (0, rf G 69)] (by decide) rfl rfl dX11_readUnit_121 rfl ?_
            refine V_iload_n 123 0 rfl rfl dX11_readUnit_122 rfl ?_
            refine V_iconst 124 (-1) rfl dX11_readUnit_123 rfl ?_
            refine V_icmp_ne 136 127 rfl dX11_readUnit_124 rfl (fun c124 => ?_) (fun c124 => absurd c124 (nI_ne (by omega)))
            refine V_aload_n 137 1 rfl _ rfl rfl dX11_readUnit_136 rfl ?_
            refine V_callV (K' := 0) (S' := 0) 140 69 11 0 [] mkX11_fine lkX11_152 (by decide) rfl rfl (by decide) rfl (Nat.le_of_ble_eq_true rfl) (Nat.le_of_ble_eq_true rfl) (Nat.le_of_ble_eq_true rfl) (Nat.le_of_ble_eq_true rfl) rfl rfl dX11_readUnit_137 rfl (c_X11_fine (fun _ => ?_) (fun e => absurd rfl e))
            refine Kq_i (k' := 0) (sl' := 0) rfl rfl ?_
            refine V_if_ne 144 143 rfl dX11_readUnit_140 rfl (fun c140 => ?_) (fun c140 => absurd c140 (by decide))
            refine V_aload_n 145 1 rfl _ rfl rfl dX11_readUnit_144 rfl ?_
            refine V_callV (K' := 0) (S' := 0) 148 69 11 0 [] mkX11_pass lkX11_236 (by decide) rfl rfl (by decide) rfl (Nat.le_of_ble_eq_true rfl) (Nat.le_of_ble_eq_true rfl) (Nat.le_of_ble_eq_true rfl) (Nat.le_of_ble_eq_true rfl) rfl rfl dX11_readUnit_145 rfl (c_X11_pass hRM (TxM.ox (o := o) hT) hs2 ?_)
            rw [wl]
            refine Kq_v (k' := 0) (sl' := 0) rfl rfl ?_
            refine V_aload_n 149 1 rfl _ rfl rfl dX11_readUnit_148 rfl ?_
            refine V_iconst 150 (1) rfl dX11_readUnit_149 rfl ?_
            refine V_iload_n 151 0 rfl rfl dX11_readUnit_150 rfl ?_
            have hj151 := em_f (a := ft) hNB (by omega) hft
            refine V_callV (K' := 0) (S' := 0) 154 69 11 2 [.int 1, .int (nI ft)] mkX11_emit lkX11_255 (by decide) rfl rfl (by decide) rfl (Nat.le_of_ble_eq_true rfl) (Nat.le_of_ble_eq_true rfl) (Nat.le_of_ble_eq_true rfl) (Nat.le_of_ble_eq_true rfl) rfl rfl dX11_readUnit_151 rfl (c_X11_emit hRM hNB.1 (by omega) ?_)
            refine Kq_v (k' := 0) (sl' := 0) rfl rfl ?_
            refine V_ret_v rfl (Nat.le_of_ble_eq_true rfl) (fun h => absurd h (by decide)) (Nat.le_of_ble_eq_true rfl) (hk _ _ _ _ _ ((if_neg cd).trans ((if_neg nop).trans (by show pFact t z p = _; unfold pFact; rw [ef]))) (n3 cz) n2 (enF_z hs2).2.1 rfl (by omega) (by have := n3 cz; omega) hj151.1 hj151.2 em_ex em_fr) dX11_readUnit_154
        · cases ef : ftF t z p with
          | none =>
            refine V_aload_n 1 0 rfl _ rfl rfl dX11_readUnit_0 rfl ?_
            refine V_callV (K' := 0) (S' := 0) 4 69 11 0 [] mkX11_fine lkX11_152 (by decide) rfl rfl (by decide) rfl (Nat.le_of_ble_eq_true rfl) (Nat.le_of_ble_eq_true rfl) (Nat.le_of_ble_eq_true rfl) (Nat.le_of_ble_eq_true rfl) rfl rfl dX11_readUnit_1 rfl (c_X11_fine (fun _ => ?_) (fun e => absurd rfl e))
            refine Kq_i (k' := 0) (sl' := 0) rfl rfl ?_
            refine V_if_ne 8 7 rfl dX11_readUnit_4 rfl (fun c4 => ?_) (fun c4 => absurd c4 (by decide))
            refine V_aload_n 9 0 rfl _ rfl rfl dX11_readUnit_8 rfl ?_
            refine V_callV (K' := 0) (S' := 0) 12 69 11 0 [] mkX11_here lkX11_135 (by decide) rfl rfl (by decide) rfl (Nat.le_of_ble_eq_true rfl) (Nat.le_of_ble_eq_true rfl) (Nat.le_of_ble_eq_true rfl) (Nat.le_of_ble_eq_true rfl) rfl rfl dX11_readUnit_9 rfl (c_X11_here hRM (TxM.ox (o := o) hT) ha ?_)
            rw [← ep]
            rw [if_neg cz]
            refine Kq_i (k' := 0) (sl' := 0) rfl rfl ?_
            refine V_bipush 14 (40) rfl dX11_readUnit_12 rfl ?_
            refine V_icmp_ne 45 17 rfl dX11_readUnit_14 rfl (fun c14 => ?_) (fun c14 => absurd c14 (by decide))
            refine V_aload_n 46 0 rfl _ rfl rfl dX11_readUnit_45 rfl ?_
            refine V_callV (K' := 0) (S' := 0) 49 69 11 0 [] mkX11_here lkX11_135 (by decide) rfl rfl (by decide) rfl (Nat.le_of_ble_eq_true rfl) (Nat.le_of_ble_eq_true rfl) (Nat.le_of_ble_eq_true rfl) (Nat.le_of_ble_eq_true rfl) rfl rfl dX11_readUnit_46 rfl (c_X11_here hRM (TxM.ox (o := o) hT) hs2 ?_)
            rw [esk]
            rw [if_neg cz]
            refine Kq_i (k' := 0) (sl' := 0) rfl rfl ?_
            refine V_callS (K' := 0) (S' := 0) 52 1 [.int 0] mkX11_isDigit lkX11_156 rfl (Nat.le_of_ble_eq_true rfl) (Nat.le_of_ble_eq_true rfl) (Nat.le_of_ble_eq_true rfl) (Nat.le_of_ble_eq_true rfl) rfl rfl dX11_readUnit_49 rfl (c_X11_isDigit (fun e3 e4 => absurd e3 (by decide)) (fun e3 => ?_))
            refine Kq_i (k' := 0) (sl' := 0) rfl rfl ?_
            refine V_if_eq 71 55 rfl dX11_readUnit_52 rfl (fun c52 => ?_) (fun c52 => absurd c52 (by decide))
            refine V_aload_n 72 0 rfl _ rfl rfl dX11_readUnit_71 rfl ?_
            refine V_callV (K' := 0) (S' := 0) 75 69 11 0 [] mkX11_word lkX11_227 (by decide) rfl rfl (by decide) rfl (Nat.le_of_ble_eq_true rfl) (Nat.le_of_ble_eq_true rfl) (Nat.le_of_ble_eq_true rfl) (Nat.le_of_ble_eq_true rfl) rfl rfl dX11_readUnit_72 rfl (c_X11_word hRM (TxM.ox (o := o) hT) hs2 ?_)
            rw [esk]
            refine Kq_i (k' := 0) (sl' := 0) rfl rfl ?_
            refine V_ldcSw 78 28 rfl rfl dX11_readUnit_75 rfl ?_
            refine V_callS (K' := 0) (S' := 0) 81 1 [sr G 28] mkX11_of lkX11_204 rfl (Nat.le_of_ble_eq_true rfl) (Nat.le_of_ble_eq_true rfl) (Nat.le_of_ble_eq_true rfl) (Nat.le_of_ble_eq_true rfl) rfl rfl dX11_readUnit_78 rfl (c_X11_of (wdo 28 (by decide) (by decide) (by decide)) ?_)
            refine Kq_i (k' := 0) (sl' := 0) rfl rfl ?_
            refine V_icmp_ne 94 84 rfl dX11_readUnit_81 rfl (fun c81 => ?_) (fun c81 => absurd ((wN (t := t) hs2 (wdo 28 (by decide) (by decide) (by decide)) o5).mp c81) w5)
            refine V_aload_n 95 0 rfl _ rfl rfl dX11_readUnit_94 rfl ?_
            refine V_callV (K' := 0) (S' := 0) 98 69 11 0 [] mkX11_word lkX11_227 (by decide) rfl rfl (by decide) rfl (Nat.le_of_ble_eq_true rfl) (Nat.le_of_ble_eq_true rfl) (Nat.le_of_ble_eq_true rfl) (Nat.le_of_ble_eq_true rfl) rfl rfl dX11_readUnit_95 rfl (c_X11_word hRM (TxM.ox (o := o) hT) hs2 ?_)
            rw [esk]
            refine Kq_i (k' := 0) (sl' := 0) rfl rfl ?_
            refine V_ldcSw 101 29 rfl rfl dX11_readUnit_98 rfl ?_
            refine V_callS (K' := 0) (S' := 0) 104 1 [sr G 29] mkX11_of lkX11_204 rfl (Nat.le_of_ble_eq_true rfl) (Nat.le_of_ble_eq_true rfl) (Nat.le_of_ble_eq_true rfl) (Nat.le_of_ble_eq_true rfl) rfl rfl dX11_readUnit_101 rfl (c_X11_of (wdo 29 (by decide) (by decide) (by decide)) ?_)
            refine Kq_i (k' := 0) (sl' := 0) rfl rfl ?_
            refine V_icmp_ne 117 107 rfl dX11_readUnit_104 rfl (fun c104 => ?_) (fun c104 => absurd ((wN (t := t) hs2 (wdo 29 (by decide) (by decide) (by decide)) o6).mp c104) w6)
            refine V_aload_n 118 0 rfl _ rfl rfl dX11_readUnit_117 rfl ?_
            refine V_callV (K' := 0) (S' := 0) 121 69 11 0 [] mkX11_factHere lkX11_289 (by decide) rfl rfl (by decide) rfl (Nat.le_of_ble_eq_true rfl) (Nat.le_of_ble_eq_true rfl) (Nat.le_of_ble_eq_true rfl) (Nat.le_of_ble_eq_true rfl) rfl rfl dX11_readUnit_118 rfl (c_X11_factHere hRM (TxM.ox (o := o) hT) hs2 ?_)
            rw [esk, ef]
            show Kq _ _ _ _ _ _ _ _ _ _ _ (.inl (some (.int (-1)))) _ _ _ _
            refine Kq_i (k' := 0) (sl' := 0) rfl rfl ?_
            refine V_istore_n 122 [(1, .int (-1)), (0, rf G 69)] (by decide) rfl rfl dX11_readUnit_121 rfl ?_
            refine V_iload_n 123 0 rfl rfl dX11_readUnit_122 rfl ?_
            refine V_iconst 124 (-1) rfl dX11_readUnit_123 rfl ?_
            refine V_icmp_ne 136 127 rfl dX11_readUnit_124 rfl (fun c124 => absurd c124 (by decide)) (fun c124 => ?_)
            refine V_aload_n 128 1 rfl _ rfl rfl dX11_readUnit_127 rfl ?_
            refine V_iconst 129 (1) rfl dX11_readUnit_128 rfl ?_
            refine V_aload_n 130 1 rfl _ rfl rfl dX11_readUnit_129 rfl ?_
            refine V_getI 133 69 11 4 (nI p) rfl flX11_129 rfl rfl rfl (by decide) dX11_readUnit_130 rfl ?_
            refine V_callV (K' := 0) (S' := 0) 136 69 11 2 [.int 1, .int (nI p)] mkX11_wrong lkX11_159 (by decide) rfl rfl (by decide) rfl (Nat.le_of_ble_eq_true rfl) (Nat.le_of_ble_eq_true rfl) (Nat.le_of_ble_eq_true rfl) (Nat.le_of_ble_eq_true rfl) rfl rfl dX11_readUnit_133 rfl (c_X11_wrong (kd := 1) (q := p) (fun e => absurd rfl e) (fun _ => ?_))
            refine Kq_v (k' := 0) (sl' := 0) rfl rfl ?_
            refine V_aload_n 137 1 rfl _ rfl rfl dX11_readUnit_136 rfl ?_
            refine V_callV (K' := 0) (S' := 0) 140 69 11 0 [] mkX11_fine lkX11_152 (by decide) rfl rfl (by decide) rfl (Nat.le_of_ble_eq_true rfl) (Nat.le_of_ble_eq_true rfl) (Nat.le_of_ble_eq_true rfl) (Nat.le_of_ble_eq_true rfl) rfl rfl dX11_readUnit_137 rfl (c_X11_fine (fun e => absurd e (nI_ne (by omega))) (fun _ => ?_))
            refine Kq_i (k' := 0) (sl' := 0) rfl rfl ?_
            refine V_if_ne 144 143 rfl dX11_readUnit_140 rfl (fun c140 => absurd c140 (by decide)) (fun c140 => ?_)
            refine V_ret_v rfl (Nat.le_of_ble_eq_true rfl) (fun h => absurd h (by decide)) (Nat.le_of_ble_eq_true rfl) (hb 1 p I p ((if_neg cd).trans ((if_neg nop).trans (by show pFact t z p = _; unfold pFact; rw [ef]))) (by decide) (by decide) hs2 hs2 FrN.rf) dX11_readUnit_143
          | some ft =>
            exfalso
            have e0 : wcF t z p = 0 := by unfold wcF; rw [sc_st (fun h => cz h.1), Nat.sub_self]; rfl
            have en : ftF t z p = none := by unfold ftF; rw [e0]; decide +kernel
            rw [ef] at en; cases en
theorem c_X11_all {G : Gx} {t : Nat → Nat} {z : Nat} : ∀ lev, lev ≤ 6 → LMt G mX11_readSum (dLw lev + 10 + 10) (6 - lev) [] t z (pSum (pUnit t z lev) t z) := by
  intro lev
  induction lev with
  | zero => intro _; exact c_X11_readSum (c_X11_readProduct (c_X11_readUnit0 (D0 := 0)))
  | succ lev ih =>
    intro h
    exact c_X11_readSum (c_X11_readProduct (c_X11_readUnitS (by omega) (ih (by omega))))
