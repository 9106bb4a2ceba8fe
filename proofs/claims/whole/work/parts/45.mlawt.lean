/-! ===== a LAW's text, as the reference reads it ===== -/
def NB (I : FI) (n : Nat) : Prop := I 69 29 = nI n ∧ n ≤ 150 ∧ ∀ i, i < n → PcOk (I 80) (I 81) i
def VS (I : FI) (n n' : Nat) (e : LE) : Prop := dpF (I 80) n' = dpF (I 80) n + 1 ∧ ∀ F, (evS (I 80) (I 81) F (fun _ => 0) n').1 (dpF (I 80) n) = e F ∧ ∀ j, j < dpF (I 80) n → (evS (I 80) (I 81) F (fun _ => 0) n').1 j = (evS (I 80) (I 81) F (fun _ => 0) n).1 j
def ExM (I I' : FI) (n : Nat) : Prop := ∀ i, i < n → I' 80 i = I 80 i ∧ I' 81 i = I 81 i
def FrN (I I' : FI) : Prop := (∀ a, a ≠ 69 → a ≠ 80 → a ≠ 81 → I' a = I a) ∧ ∀ j, j ≠ 29 → I' 69 j = I 69 j
theorem FrN.rf {I : FI} : FrN I I := ⟨fun _ _ _ _ => rfl, fun _ _ => rfl⟩
theorem FrN.tr {I I1 I2 : FI} (h : FrN I I1) (h2 : FrN I1 I2) : FrN I I2 := ⟨fun a q1 q2 q3 => (h2.1 a q1 q2 q3).trans (h.1 a q1 q2 q3), fun j q => (h2.2 j q).trans (h.2 j q)⟩
theorem FrN.T {I I' : FI} {t : Nat → Nat} {z : Nat} (h : FrN I I') (hT : TxM I t z) : TxM I' t z := hT.fr (h.2 3 (by decide)) (h.1 71 (by decide) (by decide) (by decide))
theorem ExM.rf {I : FI} {n : Nat} : ExM I I n := fun _ _ => ⟨rfl, rfl⟩
theorem ExM.tr {I I1 I2 : FI} {n n1 : Nat} (h : ExM I I1 n) (h2 : ExM I1 I2 n1) (hn : n ≤ n1) : ExM I I2 n := fun i hi => ⟨(h2 i (by omega)).1.trans (h i hi).1, (h2 i (by omega)).2.trans (h i hi).2⟩
theorem dp_cg {cd cd' : DV} : ∀ n, (∀ i, i < n → cd' i = cd i) → dpF cd' n = dpF cd n := by
  intro n
  induction n with
  | zero => intro _; rfl
  | succ n ih => intro h; rw [dpF, dpF, h n (by omega), ih (fun i hi => h i (by omega))]
theorem evS_cg {cd od cd' od' F S : DV} : ∀ n, (∀ i, i < n → cd' i = cd i ∧ od' i = od i) → evS cd' od' F S n = evS cd od F S n := by
  intro n
  induction n with
  | zero => intro _; rfl
  | succ n ih => intro h; rw [evS, evS, (h n (by omega)).1, (h n (by omega)).2, ih (fun i hi => h i (by omega))]
theorem VS.ext {I I' : FI} {n n' m : Nat} {e : LE} (h : VS I n n' e) (hn : n ≤ n') (hx : ExM I I' m) (hm : n' ≤ m) : VS I' n n' e := by
  have c1 := dp_cg n' (fun i hi => (hx i (by omega)).1)
  have c2 := dp_cg n (fun i hi => (hx i (by omega)).1)
  refine ⟨by rw [c1, c2]; exact h.1, fun F => ?_⟩
  rw [evS_cg n' (fun i hi => hx i (by omega)), evS_cg n (fun i hi => hx i (by omega)), c2]
  exact h.2 F
def emI (I : FI) (n : Nat) (c o : Int32) : FI := up2 (up2 (up2 I 80 n c) 81 n o) 69 29 (nI (n + 1))
theorem em_80 {I : FI} {n : Nat} {c o : Int32} : emI I n c o 80 = upd (I 80) n c := by unfold emI; rw [up2_n _ _ _ (by decide), up2_n _ _ _ (by decide), up2_s]
theorem em_81 {I : FI} {n : Nat} {c o : Int32} : emI I n c o 81 = upd (I 81) n o := by unfold emI; rw [up2_n _ _ _ (by decide), up2_s, up2_n _ _ _ (by decide)]
theorem em_29 {I : FI} {n : Nat} {c o : Int32} : emI I n c o 69 29 = nI (n + 1) := by unfold emI; rw [up2_s]; exact upd_s
theorem em_fr {I : FI} {n : Nat} {c o : Int32} : FrN I (emI I n c o) := by
  refine ⟨fun a q1 q2 q3 => ?_, fun j q => ?_⟩
  · unfold emI; rw [up2_n _ _ _ q1, up2_n _ _ _ q3, up2_n _ _ _ q2]
  · unfold emI; rw [up2_s, upd_n q, up2_n _ _ _ (by decide), up2_n _ _ _ (by decide)]
theorem em_ex {I : FI} {n : Nat} {c o : Int32} : ExM I (emI I n c o) n := fun i hi => ⟨by rw [em_80, upd_n (by omega)], by rw [em_81, upd_n (by omega)]⟩
theorem PcOk.cg {cd od cd' od' : DV} {i : Nat} (h : PcOk cd od i) (e : ∀ j, j ≤ i → cd' j = cd j ∧ od' j = od j) : PcOk cd' od' i := by
  unfold PcOk at h ⊢
  rw [(e i (Nat.le_refl _)).1, (e i (Nat.le_refl _)).2, dp_cg i (fun j hj => (e j (by omega)).1)]; exact h
theorem em_NB {I : FI} {n : Nat} {c o : Int32} (h : NB I n) (hn : n < 150) (hp : PcOk (upd (I 80) n c) (upd (I 81) n o) n) : NB (emI I n c o) (n + 1) := by
  refine ⟨em_29, by omega, fun i hi => ?_⟩
  by_cases q : i = n
  · subst q; rw [em_80, em_81]; exact hp
  · exact (h.2.2 i (by omega)).cg (fun j hj => em_ex j (by omega))
theorem em_dp {I : FI} {n : Nat} {c o : Int32} : dpF (emI I n c o 80) n = dpF (I 80) n := dp_cg n (fun i hi => (em_ex i hi).1)
theorem em_ev {I : FI} {n : Nat} {c o : Int32} {F : DV} : evS (emI I n c o 80) (emI I n c o 81) F (fun _ => 0) n = evS (I 80) (I 81) F (fun _ => 0) n := evS_cg n (fun i hi => em_ex i hi)
theorem em_c {I : FI} {n v : Nat} (h : NB I n) (hn : n < 150) : NB (emI I n 0 (nI v)) (n + 1) ∧ VS (emI I n 0 (nI v)) n (n + 1) (fun _ => nI v) := by
  refine ⟨em_NB h hn (Or.inl upd_s), ?_, fun F => ?_⟩
  · rw [dpF, em_dp, em_80, upd_s, if_pos (Or.inl rfl)]
  · have e0 : emI I n 0 (nI v) 80 n = 0 := by rw [em_80, upd_s]
    have e1 : emI I n 0 (nI v) 81 n = nI v := by rw [em_81, upd_s]
    rw [evS, if_pos e0, em_ev, em_dp, evS_dp, e1]
    exact ⟨upd_s, fun j hj => upd_n (by omega)⟩
theorem em_f {I : FI} {n a : Nat} (h : NB I n) (hn : n < 150) (ha : a < 8) : NB (emI I n 1 (nI a)) (n + 1) ∧ VS (emI I n 1 (nI a)) n (n + 1) (fun F => F a) := by
  refine ⟨em_NB h hn (Or.inr (Or.inl ⟨upd_s, a, ha, upd_s⟩)), ?_, fun F => ?_⟩
  · rw [dpF, em_dp, em_80, upd_s, if_pos (Or.inr rfl)]
  · have e0 : emI I n 1 (nI a) 80 n = 1 := by rw [em_80, upd_s]
    have e1 : emI I n 1 (nI a) 81 n = nI a := by rw [em_81, upd_s]
    rw [evS, e0, if_neg (by decide), if_pos rfl, em_ev, em_dp, evS_dp, e1, nI_clamp (by omega)]
    exact ⟨upd_s, fun j hj => upd_n (by omega)⟩
theorem em_o {I : FI} {n n1 n2 c : Nat} {e1 e2 : LE} (h : NB I n2) (hn : n2 < 150) (hc : 2 ≤ c) (hc8 : c ≤ 8) (h1 : VS I n n1 e1) (h2 : VS I n1 n2 e2) (hl : n ≤ n1) (hl2 : n1 ≤ n2) : NB (emI I n2 (nI c) 0) (n2 + 1) ∧ VS (emI I n2 (nI c) 0) n (n2 + 1) (fun F => jnF (mkN c) (e1 F) (e2 F)) := by
  have c0 : ¬ nI c = 0 := nI_ne0 (by omega) (by omega)
  have c1 : ¬ nI c = 1 := fun e => by have := (nI_eq (b := 1) (by omega) (by decide)).mp e; omega
  have d2 : dpF (I 80) n2 = dpF (I 80) n + 2 := by rw [h2.1, h1.1]
  have dn : dpF (emI I n2 (nI c) 0 80) n = dpF (I 80) n := dp_cg n (fun i hi => (em_ex i (by omega)).1)
  have e0 : emI I n2 (nI c) 0 80 n2 = nI c := by rw [em_80, upd_s]
  refine ⟨em_NB h hn (Or.inr (Or.inr ⟨c, hc, hc8, upd_s, ?_⟩)), ?_, fun F => ?_⟩
  · rw [dp_cg n2 (fun i hi => upd_n (by omega)), d2]; omega
  · rw [dpF, em_dp, e0, if_neg (fun q => q.elim c0 c1), dn, d2]; omega
  · have en : evS (emI I n2 (nI c) 0 80) (emI I n2 (nI c) 0 81) F (fun _ => 0) n = evS (I 80) (I 81) F (fun _ => 0) n := evS_cg n (fun i hi => em_ex i (by omega))
    rw [evS, e0, if_neg c0, if_neg c1, em_ev, dn, en, evS_dp, d2, nI_clamp (by omega)]
    obtain ⟨a1, a2⟩ := h1.2 F
    obtain ⟨b1, b2⟩ := h2.2 F
    have q1 : (evS (I 80) (I 81) F (fun _ => 0) n2).1 (dpF (I 80) n) = e1 F := by rw [b2 _ (by rw [h1.1]; omega)]; exact a1
    have q2 : (evS (I 80) (I 81) F (fun _ => 0) n2).1 (dpF (I 80) n + 1) = e2 F := by rw [← h1.1]; exact b1
    refine ⟨?_, fun j hj => ?_⟩
    · show upd _ _ _ _ = _
      rw [show dpF (I 80) n + 2 - 2 = dpF (I 80) n by omega, show dpF (I 80) n + 2 - 1 = dpF (I 80) n + 1 by omega, upd_s, q1, q2]
    · show upd _ _ _ _ = _
      rw [upd_n (by omega), b2 j (by rw [h1.1]; omega)]
      exact a2 j hj
/-- how many are open -/
def ox (I : FI) (o : Nat) : FI := up2 I 69 7 (nI o)
theorem ox_7 {I : FI} {o : Nat} : ox I o 69 7 = nI o := by unfold ox; rw [up2_s]; exact upd_s
theorem ox_n {I : FI} {o a : Nat} (h : a ≠ 69) : ox I o a = I a := up2_n _ _ _ h
theorem ox_69 {I : FI} {o j : Nat} (h : j ≠ 7) : ox I o 69 j = I 69 j := by unfold ox; rw [up2_s, upd_n h]
theorem ox_ox {I : FI} {o o' : Nat} : up2 (ox I o) 69 7 (nI o') = ox I o' := by
  funext a j
  unfold ox
  by_cases h : a = 69
  · subst h; rw [up2_s, up2_s, up2_s]; unfold upd; by_cases q : j = 7 <;> simp [q]
  · rw [up2_n _ _ _ h, up2_n _ _ _ h, up2_n _ _ _ h]
theorem ox_up {I : FI} {o a j : Nat} {v : Int32} (h : a = 69 → j ≠ 7) : up2 (ox I o) a j v = ox (up2 I a j v) o := by
  funext b q
  unfold ox
  by_cases h1 : b = 69
  · subst h1
    by_cases h2 : 69 = a
    · subst h2
      have h3 := h rfl
      rw [up2_s, up2_s, up2_s, up2_s]
      unfold upd
      by_cases q1 : q = j
      · subst q1; simp [h3]
      · by_cases q2 : q = 7
        · subst q2; simp [Ne.symm h3]
        · simp [q1, q2]
    · rw [up2_n _ _ _ h2, up2_s, up2_s, up2_n _ _ _ h2]
  · rw [up2_n _ _ _ h1]
    by_cases h2 : b = a
    · subst h2; rw [up2_s, up2_s, up2_n _ _ _ h1]
    · rw [up2_n _ _ _ h2, up2_n _ _ _ h2, up2_n _ _ _ h1]
theorem ox_em {I : FI} {o n : Nat} {c v : Int32} : emI (ox I o) n c v = ox (emI I n c v) o := by
  unfold emI
  rw [ox_up (fun h => absurd h (by decide)), ox_up (fun h => absurd h (by decide)), ox_up (fun _ => by decide)]
theorem TxM.ox {I : FI} {t : Nat → Nat} {z o : Nat} (h : TxM I t z) : TxM (ox I o) t z := h.up (fun _ => by decide) (by decide)
theorem lx_em {I : FI} {a n : Nat} {b k c v : Int32} : emI (lx I a b k) n c v = lx (emI I n c v) a b k := by
  unfold emI
  rw [lx_up (fun h => absurd h (by decide)), lx_up (fun h => absurd h (by decide)), lx_up (fun _ => by decide)]
set_option maxHeartbeats 4000000 in
theorem c_X11_emit {G : Gx} {d : Nat} {I : FI} {R : FR} {J : FJ} {Q : Po} (hRM : ∀ k, R 69 k = refM k) {o a n : Nat} {k c v : Int32} (hn : I 69 29 = nI n) (h150 : n < 150) (hq : Q (.inl none) 103 (lx (ox (emI I n c v) o) a (-1) k) R J) : Cc G mX11_emit (d + 1) 0 0 [rf G 69, .int c, .int v] 103 (lx (ox I o) a (-1) k) R J Q := by
  rw [← ox_em, ← lx_em] at hq
  show V _ _ _ _ _ _ _ _ [(0, rf G 69), (1, .int c), (2, .int v)] [] _ _ _ _ _
  refine V_aload_n 1 0 rfl _ rfl rfl dX11_emit_0 rfl ?_
  refine V_callV (K' := 0) (S' := 0) 4 69 11 0 [] mkX11_fine lkX11_152 (by decide) rfl rfl (by decide) rfl (Nat.le_of_ble_eq_true rfl) (Nat.le_of_ble_eq_true rfl) (Nat.le_of_ble_eq_true rfl) (Nat.le_of_ble_eq_true rfl) rfl rfl dX11_emit_1 rfl (c_X11_fine (fun _ => ?_) (fun e => absurd rfl e))
  refine Kq_i (k' := 0) (sl' := 0) rfl rfl ?_
  refine V_if_ne 8 7 rfl dX11_emit_4 rfl (fun c4 => ?_) (fun c4 => absurd c4 (by decide))
  refine V_aload_n 9 0 rfl _ rfl rfl dX11_emit_8 rfl ?_
  refine V_getR 12 69 11 24 80 (hRM 24) flX11_47 rfl rfl rfl (by decide) dX11_emit_9 rfl ?_
  refine V_aload_n 13 0 rfl _ rfl rfl dX11_emit_12 rfl ?_
  refine V_getI 16 69 11 29 (nI n) (by rw [lx_69 (by decide) (by decide) (by decide), ox_69 (by decide)]; exact hn) flX11_249 rfl rfl rfl (by decide) dX11_emit_13 rfl ?_
  refine V_iload_n 17 1 rfl rfl dX11_emit_16 rfl ?_
  refine V_iastN 18 80 150 n (by omega) (by decide) rfl (by decide) dX11_emit_17 rfl ?_
  refine V_aload_n 19 0 rfl _ rfl rfl dX11_emit_18 rfl ?_
  refine V_getR 22 69 11 25 81 (hRM 25) flX11_50 rfl rfl rfl (by decide) dX11_emit_19 rfl ?_
  refine V_aload_n 23 0 rfl _ rfl rfl dX11_emit_22 rfl ?_
  refine V_getI 26 69 11 29 (nI n) (by rw [up2_n _ _ _ (by decide), lx_69 (by decide) (by decide) (by decide), ox_69 (by decide)]; exact hn) flX11_249 rfl rfl rfl (by decide) dX11_emit_23 rfl ?_
  refine V_iload_n 27 2 rfl rfl dX11_emit_26 rfl ?_
  refine V_iastN 28 81 150 n (by omega) (by decide) rfl (by decide) dX11_emit_27 rfl ?_
  refine V_aload_n 29 0 rfl _ rfl rfl dX11_emit_28 rfl ?_
  refine V_dup 30 rfl dX11_emit_29 rfl ?_
  refine V_getI 33 69 11 29 (nI n) (by rw [up2_n _ _ _ (by decide), up2_n _ _ _ (by decide), lx_69 (by decide) (by decide) (by decide), ox_69 (by decide)]; exact hn) flX11_249 rfl rfl rfl (by decide) dX11_emit_30 rfl ?_
  refine V_iconst 34 (1) rfl dX11_emit_33 rfl ?_
  refine V_iadd 35 dX11_emit_34 rfl ?_
  refine V_rw (nI_add n 1) ?_
  refine V_putI 38 69 11 29 flX11_249 rfl rfl rfl (by decide) rfl dX11_emit_35 rfl ?_
  refine V_ret_v rfl (Nat.le_of_ble_eq_true rfl) (fun h => absurd h (by decide)) (Nat.le_of_ble_eq_true rfl) (hq) dX11_emit_38
theorem c_X11_emitF {G : Gx} {d : Nat} {I : FI} {R : FR} {J : FJ} {Q : Po} {b : Int32} {a : Nat} {k c v : Int32} (hb : ¬ b = -1) (hq : Q (.inl none) 103 (lx I a b k) R J) : Cc G mX11_emit (d + 1) 0 0 [rf G 69, .int c, .int v] 103 (lx I a b k) R J Q := by
  show V _ _ _ _ _ _ _ _ [(0, rf G 69), (1, .int c), (2, .int v)] [] _ _ _ _ _
  refine V_aload_n 1 0 rfl _ rfl rfl dX11_emit_0 rfl ?_
  refine V_callV (K' := 0) (S' := 0) 4 69 11 0 [] mkX11_fine lkX11_152 (by decide) rfl rfl (by decide) rfl (Nat.le_of_ble_eq_true rfl) (Nat.le_of_ble_eq_true rfl) (Nat.le_of_ble_eq_true rfl) (Nat.le_of_ble_eq_true rfl) rfl rfl dX11_emit_1 rfl (c_X11_fine (fun e => absurd e hb) (fun _ => ?_))
  refine Kq_i (k' := 0) (sl' := 0) rfl rfl ?_
  refine V_if_ne 8 7 rfl dX11_emit_4 rfl (fun c4 => absurd c4 (by decide)) (fun c4 => ?_)
  refine V_ret_v rfl (Nat.le_of_ble_eq_true rfl) (fun h => absurd h (by decide)) (Nat.le_of_ble_eq_true rfl) (hq) dX11_emit_7
set_option maxHeartbeats 4000000 in
theorem c_X11_opensOne {G : Gx} {d : Nat} {I : FI} {R : FR} {J : FJ} {Q : Po} {o a y : Nat} {k : Int32} (ho : o < 6) (hq : Q (.inl none) 103 (lx (ox I (o + 1)) (a + y) (-1) k) R J) : Cc G mX11_opensOne (d + 1) 0 0 [rf G 69, .int (nI y)] 103 (lx (ox I o) a (-1) k) R J Q := by
  show V _ _ _ _ _ _ _ _ [(0, rf G 69), (1, .int (nI y))] [] _ _ _ _ _
  refine V_aload_n 1 0 rfl _ rfl rfl dX11_opensOne_0 rfl ?_
  refine V_callV (K' := 0) (S' := 0) 4 69 11 0 [] mkX11_fine lkX11_152 (by decide) rfl rfl (by decide) rfl (Nat.le_of_ble_eq_true rfl) (Nat.le_of_ble_eq_true rfl) (Nat.le_of_ble_eq_true rfl) (Nat.le_of_ble_eq_true rfl) rfl rfl dX11_opensOne_1 rfl (c_X11_fine (fun _ => ?_) (fun e => absurd rfl e))
  refine Kq_i (k' := 0) (sl' := 0) rfl rfl ?_
  refine V_if_eq 25 7 rfl dX11_opensOne_4 rfl (fun c4 => absurd c4 (by decide)) (fun c4 => ?_)
  refine V_aload_n 8 0 rfl _ rfl rfl dX11_opensOne_7 rfl ?_
  refine V_getI 11 69 11 7 (nI o) (show lx _ _ _ _ 69 7 = _ from by rw [lx_69 (by decide) (by decide) (by decide)]; exact ox_7) flX11_163 rfl rfl rfl (by decide) dX11_opensOne_8 rfl ?_
  refine V_bipush 13 (6) rfl dX11_opensOne_11 rfl ?_
  refine V_icmp_ne 25 16 rfl dX11_opensOne_13 rfl (fun c13 => ?_) (fun c13 => absurd ((nI_eq (b := 6) (by omega) (by decide)).mp c13) (by omega))
  refine V_aload_n 26 0 rfl _ rfl rfl dX11_opensOne_25 rfl ?_
  refine V_callV (K' := 0) (S' := 0) 29 69 11 0 [] mkX11_fine lkX11_152 (by decide) rfl rfl (by decide) rfl (Nat.le_of_ble_eq_true rfl) (Nat.le_of_ble_eq_true rfl) (Nat.le_of_ble_eq_true rfl) (Nat.le_of_ble_eq_true rfl) rfl rfl dX11_opensOne_26 rfl (c_X11_fine (fun _ => ?_) (fun e => absurd rfl e))
  refine Kq_i (k' := 0) (sl' := 0) rfl rfl ?_
  refine V_if_eq 42 32 rfl dX11_opensOne_29 rfl (fun c29 => absurd c29 (by decide)) (fun c29 => ?_)
  refine V_aload_n 33 0 rfl _ rfl rfl dX11_opensOne_32 rfl ?_
  refine V_dup 34 rfl dX11_opensOne_33 rfl ?_
  refine V_getI 37 69 11 4 (nI a) rfl flX11_129 rfl rfl rfl (by decide) dX11_opensOne_34 rfl ?_
  refine V_iload_n 38 1 rfl rfl dX11_opensOne_37 rfl ?_
  refine V_iadd 39 dX11_opensOne_38 rfl ?_
  refine V_rw (nI_add a y) ?_
  refine V_putI 42 69 11 4 flX11_129 rfl rfl rfl (by decide) rfl dX11_opensOne_39 rfl ?_
  rw [lx_a]
  refine V_aload_n 43 0 rfl _ rfl rfl dX11_opensOne_42 rfl ?_
  refine V_dup 44 rfl dX11_opensOne_43 rfl ?_
  refine V_getI 47 69 11 7 (nI o) (show lx _ _ _ _ 69 7 = _ from by rw [lx_69 (by decide) (by decide) (by decide)]; exact ox_7) flX11_163 rfl rfl rfl (by decide) dX11_opensOne_44 rfl ?_
  refine V_iconst 48 (1) rfl dX11_opensOne_47 rfl ?_
  refine V_iadd 49 dX11_opensOne_48 rfl ?_
  refine V_rw (nI_add o 1) ?_
  refine V_putI 52 69 11 7 flX11_163 rfl rfl rfl (by decide) rfl dX11_opensOne_49 rfl ?_
  rw [lx_up (fun _ => by decide), ox_ox]
  refine V_ret_v rfl (Nat.le_of_ble_eq_true rfl) (fun h => absurd h (by decide)) (Nat.le_of_ble_eq_true rfl) (hq) dX11_opensOne_52
set_option maxHeartbeats 4000000 in
theorem c_X11_opensOne6 {G : Gx} {d : Nat} {I : FI} {R : FR} {J : FJ} {Q : Po} {o a y : Nat} {k : Int32} (ho : o = 6) (ha : a < 2 ^ 31) (hq : Q (.inl none) 103 (lx (ox I (o + 1)) a (nI a) 3) R J) : Cc G mX11_opensOne (d + 1) 0 0 [rf G 69, .int (nI y)] 103 (lx (ox I o) a (-1) k) R J Q := by
  show V _ _ _ _ _ _ _ _ [(0, rf G 69), (1, .int (nI y))] [] _ _ _ _ _
  refine V_aload_n 1 0 rfl _ rfl rfl dX11_opensOne_0 rfl ?_
  refine V_callV (K' := 0) (S' := 0) 4 69 11 0 [] mkX11_fine lkX11_152 (by decide) rfl rfl (by decide) rfl (Nat.le_of_ble_eq_true rfl) (Nat.le_of_ble_eq_true rfl) (Nat.le_of_ble_eq_true rfl) (Nat.le_of_ble_eq_true rfl) rfl rfl dX11_opensOne_1 rfl (c_X11_fine (fun _ => ?_) (fun e => absurd rfl e))
  refine Kq_i (k' := 0) (sl' := 0) rfl rfl ?_
  refine V_if_eq 25 7 rfl dX11_opensOne_4 rfl (fun c4 => absurd c4 (by decide)) (fun c4 => ?_)
  refine V_aload_n 8 0 rfl _ rfl rfl dX11_opensOne_7 rfl ?_
  refine V_getI 11 69 11 7 (nI o) (show lx _ _ _ _ 69 7 = _ from by rw [lx_69 (by decide) (by decide) (by decide)]; exact ox_7) flX11_163 rfl rfl rfl (by decide) dX11_opensOne_8 rfl ?_
  refine V_bipush 13 (6) rfl dX11_opensOne_11 rfl ?_
  refine V_icmp_ne 25 16 rfl dX11_opensOne_13 rfl (fun c13 => absurd (by rw [ho]; rfl) c13) (fun c13 => ?_)
  refine V_aload_n 17 0 rfl _ rfl rfl dX11_opensOne_16 rfl ?_
  refine V_iconst 18 (3) rfl dX11_opensOne_17 rfl ?_
  refine V_aload_n 19 0 rfl _ rfl rfl dX11_opensOne_18 rfl ?_
  refine V_getI 22 69 11 4 (nI a) rfl flX11_129 rfl rfl rfl (by decide) dX11_opensOne_19 rfl ?_
  refine V_callV (K' := 0) (S' := 0) 25 69 11 2 [.int 3, .int (nI a)] mkX11_wrong lkX11_159 (by decide) rfl rfl (by decide) rfl (Nat.le_of_ble_eq_true rfl) (Nat.le_of_ble_eq_true rfl) (Nat.le_of_ble_eq_true rfl) (Nat.le_of_ble_eq_true rfl) rfl rfl dX11_opensOne_22 rfl (c_X11_wrong (kd := 3) (q := a) (fun e => absurd rfl e) (fun _ => ?_))
  refine Kq_v (k' := 0) (sl' := 0) rfl rfl ?_
  refine V_aload_n 26 0 rfl _ rfl rfl dX11_opensOne_25 rfl ?_
  refine V_callV (K' := 0) (S' := 0) 29 69 11 0 [] mkX11_fine lkX11_152 (by decide) rfl rfl (by decide) rfl (Nat.le_of_ble_eq_true rfl) (Nat.le_of_ble_eq_true rfl) (Nat.le_of_ble_eq_true rfl) (Nat.le_of_ble_eq_true rfl) rfl rfl dX11_opensOne_26 rfl (c_X11_fine (fun e => absurd e (nI_ne ha)) (fun _ => ?_))
  refine Kq_i (k' := 0) (sl' := 0) rfl rfl ?_
  refine V_if_eq 42 32 rfl dX11_opensOne_29 rfl (fun c29 => ?_) (fun c29 => absurd c29 (by decide))
  refine V_aload_n 43 0 rfl _ rfl rfl dX11_opensOne_42 rfl ?_
  refine V_dup 44 rfl dX11_opensOne_43 rfl ?_
  refine V_getI 47 69 11 7 (nI o) (show lx _ _ _ _ 69 7 = _ from by rw [lx_69 (by decide) (by decide) (by decide)]; exact ox_7) flX11_163 rfl rfl rfl (by decide) dX11_opensOne_44 rfl ?_
  refine V_iconst 48 (1) rfl dX11_opensOne_47 rfl ?_
  refine V_iadd 49 dX11_opensOne_48 rfl ?_
  refine V_rw (nI_add o 1) ?_
  refine V_putI 52 69 11 7 flX11_163 rfl rfl rfl (by decide) rfl dX11_opensOne_49 rfl ?_
  rw [lx_up (fun _ => by decide), ox_ox]
  refine V_ret_v rfl (Nat.le_of_ble_eq_true rfl) (fun h => absurd h (by decide)) (Nat.le_of_ble_eq_true rfl) (hq) dX11_opensOne_52
set_option maxHeartbeats 4000000 in
theorem c_X11_opensOneF {G : Gx} {d : Nat} {I : FI} {R : FR} {J : FJ} {Q : Po} {o a y : Nat} {b k : Int32} (hb : ¬ b = -1) (hq : Q (.inl none) 103 (lx (ox I (o + 1)) a b k) R J) : Cc G mX11_opensOne (d + 1) 0 0 [rf G 69, .int (nI y)] 103 (lx (ox I o) a b k) R J Q := by
  show V _ _ _ _ _ _ _ _ [(0, rf G 69), (1, .int (nI y))] [] _ _ _ _ _
  refine V_aload_n 1 0 rfl _ rfl rfl dX11_opensOne_0 rfl ?_
  refine V_callV (K' := 0) (S' := 0) 4 69 11 0 [] mkX11_fine lkX11_152 (by decide) rfl rfl (by decide) rfl (Nat.le_of_ble_eq_true rfl) (Nat.le_of_ble_eq_true rfl) (Nat.le_of_ble_eq_true rfl) (Nat.le_of_ble_eq_true rfl) rfl rfl dX11_opensOne_1 rfl (c_X11_fine (fun e => absurd e hb) (fun _ => ?_))
  refine Kq_i (k' := 0) (sl' := 0) rfl rfl ?_
  refine V_if_eq 25 7 rfl dX11_opensOne_4 rfl (fun c4 => ?_) (fun c4 => absurd c4 (by decide))
  refine V_aload_n 26 0 rfl _ rfl rfl dX11_opensOne_25 rfl ?_
  refine V_callV (K' := 0) (S' := 0) 29 69 11 0 [] mkX11_fine lkX11_152 (by decide) rfl rfl (by decide) rfl (Nat.le_of_ble_eq_true rfl) (Nat.le_of_ble_eq_true rfl) (Nat.le_of_ble_eq_true rfl) (Nat.le_of_ble_eq_true rfl) rfl rfl dX11_opensOne_26 rfl (c_X11_fine (fun e => absurd e hb) (fun _ => ?_))
  refine Kq_i (k' := 0) (sl' := 0) rfl rfl ?_
  refine V_if_eq 42 32 rfl dX11_opensOne_29 rfl (fun c29 => ?_) (fun c29 => absurd c29 (by decide))
  refine V_aload_n 43 0 rfl _ rfl rfl dX11_opensOne_42 rfl ?_
  refine V_dup 44 rfl dX11_opensOne_43 rfl ?_
  refine V_getI 47 69 11 7 (nI o) (show lx _ _ _ _ 69 7 = _ from by rw [lx_69 (by decide) (by decide) (by decide)]; exact ox_7) flX11_163 rfl rfl rfl (by decide) dX11_opensOne_44 rfl ?_
  refine V_iconst 48 (1) rfl dX11_opensOne_47 rfl ?_
  refine V_iadd 49 dX11_opensOne_48 rfl ?_
  refine V_rw (nI_add o 1) ?_
  refine V_putI 52 69 11 7 flX11_163 rfl rfl rfl (by decide) rfl dX11_opensOne_49 rfl ?_
  rw [lx_up (fun _ => by decide), ox_ox]
  refine V_ret_v rfl (Nat.le_of_ble_eq_true rfl) (fun h => absurd h (by decide)) (Nat.le_of_ble_eq_true rfl) (hq) dX11_opensOne_52
theorem oc_f : ocF 28 = ocF 5 ∧ ocF 29 = ocF 6 ∧ ocF 30 = ocF 7 ∧ ocF 31 = ocF 8 ∧ ocF 32 = ocF 9 ∧ ocF 33 = ocF 10 ∧ ocF 34 = ocF 11 ∧ ocF 35 = ocF 12 ∧ ocF 36 = ocF 13 ∧ ocF 37 = ocF 14 := by decide +kernel
set_option maxHeartbeats 4000000 in
theorem c_X11_factHere {G : Gx} {d : Nat} {I : FI} {R : FR} {J : FJ} {Q : Po} (hRM : ∀ k, R 69 k = refM k) {t : Nat → Nat} {z : Nat} (hT : TxM I t z) {a : Nat} {b k : Int32} (ha : a ≤ z) (hq : Q (.inl (some (.int (oI (ftF t z (sk t z a)))))) 103 (lx I (sk t z a) b k) R J) : Cc G mX11_factHere (d + 1 + 1 + 1 + 1 + 1) 0 0 [rf G 69] 103 (lx I a b k) R J Q := by
  have hs := (sk_z (t := t) ha).2.1
  obtain ⟨o5, o6, o7, o8, o9, o10, o11, o12, o13, o14⟩ := oc_f
  have n0 := wN (t := t) hs (wdo 30 (by decide) (by decide) (by decide)) o7
  have n1 := wN (t := t) hs (wdo 31 (by decide) (by decide) (by decide)) o8
  have n2 := wN (t := t) hs (wdo 32 (by decide) (by decide) (by decide)) o9
  have n3 := wN (t := t) hs (wdo 33 (by decide) (by decide) (by decide)) o10
  have n4 := wN (t := t) hs (wdo 34 (by decide) (by decide) (by decide)) o11
  have n5 := wN (t := t) hs (wdo 35 (by decide) (by decide) (by decide)) o12
  have n6 := wN (t := t) hs (wdo 36 (by decide) (by decide) (by decide)) o13
  have n7 := wN (t := t) hs (wdo 37 (by decide) (by decide) (by decide)) o14
  show V _ _ _ _ _ _ _ _ [(0, rf G 69)] [] _ _ _ _ _
  refine V_aload_n 1 0 rfl _ rfl rfl dX11_factHere_0 rfl ?_
  refine V_callV (K' := 0) (S' := 0) 4 69 11 0 [] mkX11_word lkX11_227 (by decide) rfl rfl (by decide) rfl (Nat.le_of_ble_eq_true rfl) (Nat.le_of_ble_eq_true rfl) (Nat.le_of_ble_eq_true rfl) (Nat.le_of_ble_eq_true rfl) rfl rfl dX11_factHere_1 rfl (c_X11_word hRM hT ha ?_)
  refine Kq_i (k' := 0) (sl' := 0) rfl rfl ?_
  refine V_istore_n 5 [(1, .int (nI (wcF t z (sk t z a)))), (0, rf G 69)] (by decide) rfl rfl dX11_factHere_4 rfl ?_
  refine V_iload_n 6 0 rfl rfl dX11_factHere_5 rfl ?_
  refine V_ldcSw 9 30 rfl rfl dX11_factHere_6 rfl ?_
  refine V_callS (K' := 0) (S' := 0) 12 1 [sr G 30] mkX11_of lkX11_204 rfl (Nat.le_of_ble_eq_true rfl) (Nat.le_of_ble_eq_true rfl) (Nat.le_of_ble_eq_true rfl) (Nat.le_of_ble_eq_true rfl) rfl rfl dX11_factHere_9 rfl (c_X11_of (wdo 30 (by decide) (by decide) (by decide)) ?_)
  refine Kq_i (k' := 0) (sl' := 0) rfl rfl ?_
  refine V_icmp_ne 19 15 rfl dX11_factHere_12 rfl (fun c12 => ?_) (fun c12 => ?_)
  · refine V_iload_n 20 0 rfl rfl dX11_factHere_19 rfl ?_
    refine V_ldcSw 23 31 rfl rfl dX11_factHere_20 rfl ?_
    refine V_callS (K' := 0) (S' := 0) 26 1 [sr G 31] mkX11_of lkX11_204 rfl (Nat.le_of_ble_eq_true rfl) (Nat.le_of_ble_eq_true rfl) (Nat.le_of_ble_eq_true rfl) (Nat.le_of_ble_eq_true rfl) rfl rfl dX11_factHere_23 rfl (c_X11_of (wdo 31 (by decide) (by decide) (by decide)) ?_)
    refine Kq_i (k' := 0) (sl' := 0) rfl rfl ?_
    refine V_icmp_ne 33 29 rfl dX11_factHere_26 rfl (fun c26 => ?_) (fun c26 => ?_)
    · refine V_iload_n 34 0 rfl rfl dX11_factHere_33 rfl ?_
      refine V_ldcSw 37 32 rfl rfl dX11_factHere_34 rfl ?_
      refine V_callS (K' := 0) (S' := 0) 40 1 [sr G 32] mkX11_of lkX11_204 rfl (Nat.le_of_ble_eq_true rfl) (Nat.le_of_ble_eq_true rfl) (Nat.le_of_ble_eq_true rfl) (Nat.le_of_ble_eq_true rfl) rfl rfl dX11_factHere_37 rfl (c_X11_of (wdo 32 (by decide) (by decide) (by decide)) ?_)
      refine Kq_i (k' := 0) (sl' := 0) rfl rfl ?_
      refine V_icmp_ne 47 43 rfl dX11_factHere_40 rfl (fun c40 => ?_) (fun c40 => ?_)
      · refine V_iload_n 48 0 rfl rfl dX11_factHere_47 rfl ?_
        refine V_ldcSw 51 33 rfl rfl dX11_factHere_48 rfl ?_
        refine V_callS (K' := 0) (S' := 0) 54 1 [sr G 33] mkX11_of lkX11_204 rfl (Nat.le_of_ble_eq_true rfl) (Nat.le_of_ble_eq_true rfl) (Nat.le_of_ble_eq_true rfl) (Nat.le_of_ble_eq_true rfl) rfl rfl dX11_factHere_51 rfl (c_X11_of (wdo 33 (by decide) (by decide) (by decide)) ?_)
        refine Kq_i (k' := 0) (sl' := 0) rfl rfl ?_
        refine V_icmp_ne 61 57 rfl dX11_factHere_54 rfl (fun c54 => ?_) (fun c54 => ?_)
        · refine V_iload_n 62 0 rfl rfl dX11_factHere_61 rfl ?_
          refine V_ldcSw 65 34 rfl rfl dX11_factHere_62 rfl ?_
          refine V_callS (K' := 0) (S' := 0) 68 1 [sr G 34] mkX11_of lkX11_204 rfl (Nat.le_of_ble_eq_true rfl) (Nat.le_of_ble_eq_true rfl) (Nat.le_of_ble_eq_true rfl) (Nat.le_of_ble_eq_true rfl) rfl rfl dX11_factHere_65 rfl (c_X11_of (wdo 34 (by decide) (by decide) (by decide)) ?_)
          refine Kq_i (k' := 0) (sl' := 0) rfl rfl ?_
          refine V_icmp_ne 75 71 rfl dX11_factHere_68 rfl (fun c68 => ?_) (fun c68 => ?_)
          · refine V_iload_n 76 0 rfl rfl dX11_factHere_75 rfl ?_
            refine V_ldcSw 79 35 rfl rfl dX11_factHere_76 rfl ?_
            refine V_callS (K' := 0) (S' := 0) 82 1 [sr G 35] mkX11_of lkX11_204 rfl (Nat.le_of_ble_eq_true rfl) (Nat.le_of_ble_eq_true rfl) (Nat.le_of_ble_eq_true rfl) (Nat.le_of_ble_eq_true rfl) rfl rfl dX11_factHere_79 rfl (c_X11_of (wdo 35 (by decide) (by decide) (by decide)) ?_)
            refine Kq_i (k' := 0) (sl' := 0) rfl rfl ?_
            refine V_icmp_ne 89 85 rfl dX11_factHere_82 rfl (fun c82 => ?_) (fun c82 => ?_)
            · refine V_iload_n 90 0 rfl rfl dX11_factHere_89 rfl ?_
              refine V_ldcSw 93 36 rfl rfl dX11_factHere_90 rfl ?_
              refine V_callS (K' := 0) (S' := 0) 96 1 [sr G 36] mkX11_of lkX11_204 rfl (Nat.le_of_ble_eq_true rfl) (Nat.le_of_ble_eq_true rfl) (Nat.le_of_ble_eq_true rfl) (Nat.le_of_ble_eq_true rfl) rfl rfl dX11_factHere_93 rfl (c_X11_of (wdo 36 (by decide) (by decide) (by decide)) ?_)
              refine Kq_i (k' := 0) (sl' := 0) rfl rfl ?_
              refine V_icmp_ne 104 99 rfl dX11_factHere_96 rfl (fun c96 => ?_) (fun c96 => ?_)
              · refine V_iload_n 105 0 rfl rfl dX11_factHere_104 rfl ?_
                refine V_ldcSw 108 37 rfl rfl dX11_factHere_105 rfl ?_
                refine V_callS (K' := 0) (S' := 0) 111 1 [sr G 37] mkX11_of lkX11_204 rfl (Nat.le_of_ble_eq_true rfl) (Nat.le_of_ble_eq_true rfl) (Nat.le_of_ble_eq_true rfl) (Nat.le_of_ble_eq_true rfl) rfl rfl dX11_factHere_108 rfl (c_X11_of (wdo 37 (by decide) (by decide) (by decide)) ?_)
                refine Kq_i (k' := 0) (sl' := 0) rfl rfl ?_
                refine V_icmp_ne 119 114 rfl dX11_factHere_111 rfl (fun c111 => ?_) (fun c111 => ?_)
                · refine V_iconst 120 (-1) rfl dX11_factHere_119 rfl ?_
                  refine V_ret_i rfl rfl (Nat.le_of_ble_eq_true rfl) (fun h => absurd h (by decide)) (Nat.le_of_ble_eq_true rfl) (by rw [ftF, if_neg (fun q => c12 (n0.mpr q)), if_neg (fun q => c26 (n1.mpr q)), if_neg (fun q => c40 (n2.mpr q)), if_neg (fun q => c54 (n3.mpr q)), if_neg (fun q => c68 (n4.mpr q)), if_neg (fun q => c82 (n5.mpr q)), if_neg (fun q => c96 (n6.mpr q)), if_neg (fun q => c111 (n7.mpr q))] at hq; exact hq) dX11_factHere_120
                · refine V_bipush 116 (7) rfl dX11_factHere_114 rfl ?_
                  refine V_goto 120 rfl dX11_factHere_116 ?_
                  refine V_ret_i rfl rfl (Nat.le_of_ble_eq_true rfl) (fun h => absurd h (by decide)) (Nat.le_of_ble_eq_true rfl) (by rw [ftF, if_neg (fun q => c12 (n0.mpr q)), if_neg (fun q => c26 (n1.mpr q)), if_neg (fun q => c40 (n2.mpr q)), if_neg (fun q => c54 (n3.mpr q)), if_neg (fun q => c68 (n4.mpr q)), if_neg (fun q => c82 (n5.mpr q)), if_neg (fun q => c96 (n6.mpr q)), if_pos (n7.mp c111)] at hq; exact hq) dX11_factHere_120
              · refine V_bipush 101 (6) rfl dX11_factHere_99 rfl ?_
                refine V_goto 120 rfl dX11_factHere_101 ?_
                refine V_ret_i rfl rfl (Nat.le_of_ble_eq_true rfl) (fun h => absurd h (by decide)) (Nat.le_of_ble_eq_true rfl) (by rw [ftF, if_neg (fun q => c12 (n0.mpr q)), if_neg (fun q => c26 (n1.mpr q)), if_neg (fun q => c40 (n2.mpr q)), if_neg (fun q => c54 (n3.mpr q)), if_neg (fun q => c68 (n4.mpr q)), if_neg (fun q => c82 (n5.mpr q)), if_pos (n6.mp c96)] at hq; exact hq) dX11_factHere_120
            · refine V_iconst 86 (5) rfl dX11_factHere_85 rfl ?_
              refine V_goto 120 rfl dX11_factHere_86 ?_
              refine V_ret_i rfl rfl (Nat.le_of_ble_eq_true rfl) (fun h => absurd h (by decide)) (Nat.le_of_ble_eq_true rfl) (by rw [ftF, if_neg (fun q => c12 (n0.mpr q)), if_neg (fun q => c26 (n1.mpr q)), if_neg (fun q => c40 (n2.mpr q)), if_neg (fun q => c54 (n3.mpr q)), if_neg (fun q => c68 (n4.mpr q)), if_pos (n5.mp c82)] at hq; exact hq) dX11_factHere_120
          · refine V_iconst 72 (4) rfl dX11_factHere_71 rfl ?_
            refine V_goto 120 rfl dX11_factHere_72 ?_
            refine V_ret_i rfl rfl (Nat.le_of_ble_eq_true rfl) (fun h => absurd h (by decide)) (Nat.le_of_ble_eq_true rfl) (by rw [ftF, if_neg (fun q => c12 (n0.mpr q)), if_neg (fun q => c26 (n1.mpr q)), if_neg (fun q => c40 (n2.mpr q)), if_neg (fun q => c54 (n3.mpr q)), if_pos (n4.mp c68)] at hq; exact hq) dX11_factHere_120
        · refine V_iconst 58 (3) rfl dX11_factHere_57 rfl ?_
          refine V_goto 120 rfl dX11_factHere_58 ?_
          refine V_ret_i rfl rfl (Nat.le_of_ble_eq_true rfl) (fun h => absurd h (by decide)) (Nat.le_of_ble_eq_true rfl) (by rw [ftF, if_neg (fun q => c12 (n0.mpr q)), if_neg (fun q => c26 (n1.mpr q)), if_neg (fun q => c40 (n2.mpr q)), if_pos (n3.mp c54)] at hq; exact hq) dX11_factHere_120
      · refine V_iconst 44 (2) rfl dX11_factHere_43 rfl ?_
        refine V_goto 120 rfl dX11_factHere_44 ?_
        refine V_ret_i rfl rfl (Nat.le_of_ble_eq_true rfl) (fun h => absurd h (by decide)) (Nat.le_of_ble_eq_true rfl) (by rw [ftF, if_neg (fun q => c12 (n0.mpr q)), if_neg (fun q => c26 (n1.mpr q)), if_pos (n2.mp c40)] at hq; exact hq) dX11_factHere_120
    · refine V_iconst 30 (1) rfl dX11_factHere_29 rfl ?_
      refine V_goto 120 rfl dX11_factHere_30 ?_
      refine V_ret_i rfl rfl (Nat.le_of_ble_eq_true rfl) (fun h => absurd h (by decide)) (Nat.le_of_ble_eq_true rfl) (by rw [ftF, if_neg (fun q => c12 (n0.mpr q)), if_pos (n1.mp c26)] at hq; exact hq) dX11_factHere_120
  · refine V_iconst 16 (0) rfl dX11_factHere_15 rfl ?_
    refine V_goto 120 rfl dX11_factHere_16 ?_
    refine V_ret_i rfl rfl (Nat.le_of_ble_eq_true rfl) (fun h => absurd h (by decide)) (Nat.le_of_ble_eq_true rfl) (by rw [ftF, if_pos (n0.mp c12)] at hq; exact hq) dX11_factHere_120
def LMt (G : Gx) (m : MD) (D0 o : Nat) (xs : List Value) (t : Nat → Nat) (z : Nat) (u : Nat → FT ⊕ (LE × Nat)) : Prop := ∀ (d : Nat) (I : FI) (R : FR) (J : FJ) (Q : Po) (a n : Nat) (k : Int32), D0 ≤ d → (∀ k, R 69 k = refM k) → TxM I t z → z ≤ 150 → a ≤ z → n ≤ sk t z a → NB I n →
  (∀ e p' I' a' n', u (sk t z a) = .inr (e, p') → sk t z a < p' → p' ≤ z → a' ≤ z → sk t z a' = p' → n < n' → n' + sk t z a ≤ n + p' → NB I' n' → VS I' n n' e → ExM I I' n → FrN I I' → Q (.inl none) 103 (lx (ox I' o) a' (-1) k) R J) →
  (∀ kd q I' a', u (sk t z a) = .inl (kd, q) → 0 < kd → kd ≤ 3 → q ≤ z → a' ≤ z → FrN I I' → Q (.inl none) 103 (lx (ox I' o) a' (nI q) (nI kd)) R J) →
  Cc G m d 0 0 (rf G 69 :: xs) 103 (lx (ox I o) a (-1) k) R J Q
theorem c_X11_readUnitF {G : Gx} {d : Nat} {I : FI} {R : FR} {J : FJ} {Q : Po} {a : Nat} {b k : Int32} (hb : ¬ b = -1) (hq : Q (.inl none) 103 (lx I a b k) R J) : Cc G mX11_readUnit (d + 1) 0 0 [rf G 69] 103 (lx I a b k) R J Q := by
  show V _ _ _ _ _ _ _ _ [(0, rf G 69)] [] _ _ _ _ _
  refine V_aload_n 1 0 rfl _ rfl rfl dX11_readUnit_0 rfl ?_
  refine V_callV (K' := 0) (S' := 0) 4 69 11 0 [] mkX11_fine lkX11_152 (by decide) rfl rfl (by decide) rfl (Nat.le_of_ble_eq_true rfl) (Nat.le_of_ble_eq_true rfl) (Nat.le_of_ble_eq_true rfl) (Nat.le_of_ble_eq_true rfl) rfl rfl dX11_readUnit_1 rfl (c_X11_fine (fun e => absurd e hb) (fun _ => ?_))
  refine Kq_i (k' := 0) (sl' := 0) rfl rfl ?_
  refine V_if_ne 8 7 rfl dX11_readUnit_4 rfl (fun c4 => absurd c4 (by decide)) (fun c4 => ?_)
  refine V_ret_v rfl (Nat.le_of_ble_eq_true rfl) (fun h => absurd h (by decide)) (Nat.le_of_ble_eq_true rfl) (hq) dX11_readUnit_7
theorem c_X11_readProductF {G : Gx} {d : Nat} {I : FI} {R : FR} {J : FJ} {Q : Po} {a : Nat} {b k : Int32} (hb : ¬ b = -1) (hq : Q (.inl none) 103 (lx I a b k) R J) : Cc G mX11_readProduct (d + 1 + 1) 0 0 [rf G 69] 103 (lx I a b k) R J Q := by
  show V _ _ _ _ _ _ _ _ [(0, rf G 69)] [] _ _ _ _ _
  refine V_aload_n 1 0 rfl _ rfl rfl dX11_readProduct_0 rfl ?_
  refine V_callV (K' := 0) (S' := 0) 4 69 11 0 [] mkX11_readUnit lkX11_258 (by decide) rfl rfl (by decide) rfl (Nat.le_of_ble_eq_true rfl) (Nat.le_of_ble_eq_true rfl) (Nat.le_of_ble_eq_true rfl) (Nat.le_of_ble_eq_true rfl) rfl rfl dX11_readProduct_1 rfl (c_X11_readUnitF hb ?_)
  refine Kq_v (k' := 0) (sl' := 0) rfl rfl ?_
  refine V_aload_n 5 0 rfl _ rfl rfl dX11_readProduct_4 rfl ?_
  refine V_callV (K' := 0) (S' := 0) 8 69 11 0 [] mkX11_fine lkX11_152 (by decide) rfl rfl (by decide) rfl (Nat.le_of_ble_eq_true rfl) (Nat.le_of_ble_eq_true rfl) (Nat.le_of_ble_eq_true rfl) (Nat.le_of_ble_eq_true rfl) rfl rfl dX11_readProduct_5 rfl (c_X11_fine (fun e => absurd e hb) (fun _ => ?_))
  refine Kq_i (k' := 0) (sl' := 0) rfl rfl ?_
  refine V_if_eq 90 11 rfl dX11_readProduct_8 rfl (fun c8 => ?_) (fun c8 => absurd c8 (by decide))
  refine V_ret_v rfl (Nat.le_of_ble_eq_true rfl) (fun h => absurd h (by decide)) (Nat.le_of_ble_eq_true rfl) (hq) dX11_readProduct_90
theorem c_X11_readSumF {G : Gx} {d : Nat} {I : FI} {R : FR} {J : FJ} {Q : Po} {a : Nat} {b k : Int32} (hb : ¬ b = -1) (hq : Q (.inl none) 103 (lx I a b k) R J) : Cc G mX11_readSum (d + 1 + 1 + 1) 0 0 [rf G 69] 103 (lx I a b k) R J Q := by
  show V _ _ _ _ _ _ _ _ [(0, rf G 69)] [] _ _ _ _ _
  refine V_aload_n 1 0 rfl _ rfl rfl dX11_readSum_0 rfl ?_
  refine V_callV (K' := 0) (S' := 0) 4 69 11 0 [] mkX11_readProduct lkX11_252 (by decide) rfl rfl (by decide) rfl (Nat.le_of_ble_eq_true rfl) (Nat.le_of_ble_eq_true rfl) (Nat.le_of_ble_eq_true rfl) (Nat.le_of_ble_eq_true rfl) rfl rfl dX11_readSum_1 rfl (c_X11_readProductF hb ?_)
  refine Kq_v (k' := 0) (sl' := 0) rfl rfl ?_
  refine V_aload_n 5 0 rfl _ rfl rfl dX11_readSum_4 rfl ?_
  refine V_callV (K' := 0) (S' := 0) 8 69 11 0 [] mkX11_fine lkX11_152 (by decide) rfl rfl (by decide) rfl (Nat.le_of_ble_eq_true rfl) (Nat.le_of_ble_eq_true rfl) (Nat.le_of_ble_eq_true rfl) (Nat.le_of_ble_eq_true rfl) rfl rfl dX11_readSum_5 rfl (c_X11_fine (fun e => absurd e hb) (fun _ => ?_))
  refine Kq_i (k' := 0) (sl' := 0) rfl rfl ?_
  refine V_if_eq 67 11 rfl dX11_readSum_8 rfl (fun c8 => ?_) (fun c8 => absurd c8 (by decide))
  refine V_ret_v rfl (Nat.le_of_ble_eq_true rfl) (fun h => absurd h (by decide)) (Nat.le_of_ble_eq_true rfl) (hq) dX11_readSum_67
set_option maxHeartbeats 8000000 in
theorem c_X11_readProduct {G : Gx} {t : Nat → Nat} {z o D0 : Nat} {u : Nat → FT ⊕ (LE × Nat)} (hU : LMt G mX11_readUnit D0 o [] t z u) : LMt G mX11_readProduct (D0 + 10) o [] t z (fun p => bd (u p) (fun x => pProdL u t z z x.1 x.2)) := by
  intro d I R J Q a n k hd hRM hT h150 ha hn hNB hk hb
  obtain ⟨m, rfl⟩ : ∃ m, d = m + 10 := ⟨d - 10, by omega⟩
  have h6 := hT.2.1
  obtain ⟨hs1, hs2, hs3⟩ := sk_z (t := t) ha
  have esk := sk_sk (t := t) ha
  obtain ⟨p, ep⟩ : ∃ p, p = sk t z a := ⟨_, rfl⟩
  rw [← ep] at hn hk hb hs1 hs2 esk
  have hexit : ∀ a1 I1 kd q, 0 < kd → kd ≤ 3 → q ≤ z → a1 ≤ z → FrN I I1 → bd (u p) (fun x => pProdL u t z z x.1 x.2) = .inl (kd, q) → V G mX11_readProduct (m + 10) 0 0 0 0 4 [(0, rf G 69)] [] 103 (lx (ox I1 o) a1 (nI q) (nI kd)) R J Q := by
    intro a1 I1 kd q hk1 hk3 hq ha1 hF e1
    have nb : ¬ nI q = -1 := nI_ne (by omega)
    refine V_aload_n 5 0 rfl _ rfl rfl dX11_readProduct_4 rfl ?_
    refine V_callV (K' := 0) (S' := 0) 8 69 11 0 [] mkX11_fine lkX11_152 (by decide) rfl rfl (by decide) rfl (Nat.le_of_ble_eq_true rfl) (Nat.le_of_ble_eq_true rfl) (Nat.le_of_ble_eq_true rfl) (Nat.le_of_ble_eq_true rfl) rfl rfl dX11_readProduct_5 rfl (c_X11_fine (fun e => absurd e nb) (fun _ => ?_))
    refine Kq_i (k' := 0) (sl' := 0) rfl rfl ?_
    refine V_if_eq 90 11 rfl dX11_readProduct_8 rfl (fun c8 => ?_) (fun c8 => absurd c8 (by decide))
    refine V_ret_v rfl (Nat.le_of_ble_eq_true rfl) (fun h => absurd h (by decide)) (Nat.le_of_ble_eq_true rfl) (hb _ _ _ _ e1 hk1 hk3 hq ha1 hF) dX11_readProduct_90
  have L : ∀ f n1 e1 a1 p1 I1, z - p1 ≤ f → sk t z a1 = p1 → a1 ≤ z → p < p1 → p1 ≤ z → n < n1 → n1 + p ≤ n + p1 → NB I1 n1 → VS I1 n n1 e1 → ExM I I1 n → FrN I I1 → bd (u p) (fun x => pProdL u t z z x.1 x.2) = pProdL u t z f e1 p1 → V G mX11_readProduct (m + 10) 0 0 0 0 4 [(0, rf G 69)] [] 103 (lx (ox I1 o) a1 (-1) k) R J Q := by
    intro f
    induction f with
    | zero =>
      intro n1 e1 a1 p1 I1 hf hes ha1 hlt hp1 hnn hnz hNB1 hV1 hE1 hF1 eq
      have hT1 := hF1.T hT
      have esk1 : sk t z p1 = p1 := by rw [← hes]; exact sk_sk ha1
      have cz : ¬ p1 < z := by omega
      refine V_aload_n 5 0 rfl _ rfl rfl dX11_readProduct_4 rfl ?_
      refine V_callV (K' := 0) (S' := 0) 8 69 11 0 [] mkX11_fine lkX11_152 (by decide) rfl rfl (by decide) rfl (Nat.le_of_ble_eq_true rfl) (Nat.le_of_ble_eq_true rfl) (Nat.le_of_ble_eq_true rfl) (Nat.le_of_ble_eq_true rfl) rfl rfl dX11_readProduct_5 rfl (c_X11_fine (fun _ => ?_) (fun e => absurd rfl e))
      refine Kq_i (k' := 0) (sl' := 0) rfl rfl ?_
      refine V_if_eq 90 11 rfl dX11_readProduct_8 rfl (fun c8 => absurd c8 (by decide)) (fun c8 => ?_)
      refine V_aload_n 12 0 rfl _ rfl rfl dX11_readProduct_11 rfl ?_
      refine V_callV (K' := 0) (S' := 0) 15 69 11 0 [] mkX11_here lkX11_135 (by decide) rfl rfl (by decide) rfl (Nat.le_of_ble_eq_true rfl) (Nat.le_of_ble_eq_true rfl) (Nat.le_of_ble_eq_true rfl) (Nat.le_of_ble_eq_true rfl) rfl rfl dX11_readProduct_12 rfl (c_X11_here hRM (TxM.ox (o := o) hT1) ha1 ?_)
      rw [hes]
      rw [if_neg cz]
      refine Kq_i (k' := 0) (sl' := 0) rfl rfl ?_
      refine V_bipush 17 (42) rfl dX11_readProduct_15 rfl ?_
      refine V_icmp_eq 38 20 rfl dX11_readProduct_17 rfl (fun c17 => absurd c17 (by decide)) (fun c17 => ?_)
      refine V_aload_n 21 0 rfl _ rfl rfl dX11_readProduct_20 rfl ?_
      refine V_callV (K' := 0) (S' := 0) 24 69 11 0 [] mkX11_here lkX11_135 (by decide) rfl rfl (by decide) rfl (Nat.le_of_ble_eq_true rfl) (Nat.le_of_ble_eq_true rfl) (Nat.le_of_ble_eq_true rfl) (Nat.le_of_ble_eq_true rfl) rfl rfl dX11_readProduct_21 rfl (c_X11_here hRM (TxM.ox (o := o) hT1) hp1 ?_)
      rw [esk1]
      rw [if_neg cz]
      refine Kq_i (k' := 0) (sl' := 0) rfl rfl ?_
      refine V_bipush 26 (47) rfl dX11_readProduct_24 rfl ?_
      refine V_icmp_eq 38 29 rfl dX11_readProduct_26 rfl (fun c26 => absurd c26 (by decide)) (fun c26 => ?_)
      refine V_aload_n 30 0 rfl _ rfl rfl dX11_readProduct_29 rfl ?_
      refine V_callV (K' := 0) (S' := 0) 33 69 11 0 [] mkX11_here lkX11_135 (by decide) rfl rfl (by decide) rfl (Nat.le_of_ble_eq_true rfl) (Nat.le_of_ble_eq_true rfl) (Nat.le_of_ble_eq_true rfl) (Nat.le_of_ble_eq_true rfl) rfl rfl dX11_readProduct_30 rfl (c_X11_here hRM (TxM.ox (o := o) hT1) hp1 ?_)
      rw [esk1]
      rw [if_neg cz]
      refine Kq_i (k' := 0) (sl' := 0) rfl rfl ?_
      refine V_bipush 35 (37) rfl dX11_readProduct_33 rfl ?_
      refine V_icmp_ne 90 38 rfl dX11_readProduct_35 rfl (fun c35 => ?_) (fun c35 => absurd c35 (by decide))
      refine V_ret_v rfl (Nat.le_of_ble_eq_true rfl) (fun h => absurd h (by decide)) (Nat.le_of_ble_eq_true rfl) (hk e1 p1 I1 p1 n1 eq hlt hp1 hp1 esk1 hnn hnz hNB1 hV1 hE1 hF1) dX11_readProduct_90
    | succ f ih =>
      intro n1 e1 a1 p1 I1 hf hes ha1 hlt hp1 hnn hnz hNB1 hV1 hE1 hF1 eq
      have hT1 := hF1.T hT
      have esk1 : sk t z p1 = p1 := by rw [← hes]; exact sk_sk ha1
      rw [pProdL] at eq
      by_cases cs : p1 < z ∧ (t p1 = 42 ∨ t p1 = 47 ∨ t p1 = 37)
      · have cz := cs.1
        have e1n : sk t z (p1 + 1) = nx t z p1 := by unfold nx enF; rw [if_neg (by omega)]; rcases cs.2 with e | e | e <;> rw [e, if_neg (by decide), if_neg (by decide)]
        obtain ⟨-, n2, n3⟩ := nx_z (t := t) hp1
        have n4 := n3 cz
        rcases cs.2 with c4 | c4 | c4
        · rw [← e1n] at eq n2 n4
          refine V_aload_n 5 0 rfl _ rfl rfl dX11_readProduct_4 rfl ?_
          refine V_callV (K' := 0) (S' := 0) 8 69 11 0 [] mkX11_fine lkX11_152 (by decide) rfl rfl (by decide) rfl (Nat.le_of_ble_eq_true rfl) (Nat.le_of_ble_eq_true rfl) (Nat.le_of_ble_eq_true rfl) (Nat.le_of_ble_eq_true rfl) rfl rfl dX11_readProduct_5 rfl (c_X11_fine (fun _ => ?_) (fun e => absurd rfl e))
          refine Kq_i (k' := 0) (sl' := 0) rfl rfl ?_
          refine V_if_eq 90 11 rfl dX11_readProduct_8 rfl (fun c8 => absurd c8 (by decide)) (fun c8 => ?_)
          refine V_aload_n 12 0 rfl _ rfl rfl dX11_readProduct_11 rfl ?_
          refine V_callV (K' := 0) (S' := 0) 15 69 11 0 [] mkX11_here lkX11_135 (by decide) rfl rfl (by decide) rfl (Nat.le_of_ble_eq_true rfl) (Nat.le_of_ble_eq_true rfl) (Nat.le_of_ble_eq_true rfl) (Nat.le_of_ble_eq_true rfl) rfl rfl dX11_readProduct_12 rfl (c_X11_here hRM (TxM.ox (o := o) hT1) ha1 ?_)
          rw [hes]
          rw [if_pos cz, c4, show nI 42 = (42 : Int32) from rfl]
          refine Kq_i (k' := 0) (sl' := 0) rfl rfl ?_
          refine V_bipush 17 (42) rfl dX11_readProduct_15 rfl ?_
          refine V_icmp_eq 38 20 rfl dX11_readProduct_17 rfl (fun c17 => ?_) (fun c17 => absurd c17 (by decide))
          refine V_aload_n 39 0 rfl _ rfl rfl dX11_readProduct_38 rfl ?_
          refine V_callV (K' := 0) (S' := 0) 42 69 11 0 [] mkX11_here lkX11_135 (by decide) rfl rfl (by decide) rfl (Nat.le_of_ble_eq_true rfl) (Nat.le_of_ble_eq_true rfl) (Nat.le_of_ble_eq_true rfl) (Nat.le_of_ble_eq_true rfl) rfl rfl dX11_readProduct_39 rfl (c_X11_here hRM (TxM.ox (o := o) hT1) hp1 ?_)
          rw [esk1]
          rw [if_pos cz, c4, show nI 42 = (42 : Int32) from rfl]
          refine Kq_i (k' := 0) (sl' := 0) rfl rfl ?_
          refine V_bipush 44 (42) rfl dX11_readProduct_42 rfl ?_
          refine V_icmp_ne 51 47 rfl dX11_readProduct_44 rfl (fun c44 => absurd c44 (by decide)) (fun c44 => ?_)
          refine V_iconst 48 (4) rfl dX11_readProduct_47 rfl ?_
          refine V_goto 66 rfl dX11_readProduct_48 ?_
          refine V_istore_n 67 [(1, .int 4), (0, rf G 69)] (by decide) rfl rfl dX11_readProduct_66 rfl ?_
          refine V_aload_n 68 1 rfl _ rfl rfl dX11_readProduct_67 rfl ?_
          refine V_dup 69 rfl dX11_readProduct_68 rfl ?_
          refine V_getI 72 69 11 4 (nI p1) rfl flX11_129 rfl rfl rfl (by decide) dX11_readProduct_69 rfl ?_
          refine V_iconst 73 (1) rfl dX11_readProduct_72 rfl ?_
          refine V_iadd 74 dX11_readProduct_73 rfl ?_
          refine V_rw (nI_add p1 1) ?_
          refine V_putI 77 69 11 4 flX11_129 rfl rfl rfl (by decide) rfl dX11_readProduct_74 rfl ?_
          rw [lx_a]
          refine V_aload_n 78 1 rfl _ rfl rfl dX11_readProduct_77 rfl ?_
          refine V_callV (K' := 0) (S' := 0) 81 69 11 0 [] mkX11_readUnit lkX11_258 (by decide) rfl rfl (by decide) rfl (Nat.le_of_ble_eq_true rfl) (Nat.le_of_ble_eq_true rfl) (Nat.le_of_ble_eq_true rfl) (Nat.le_of_ble_eq_true rfl) rfl rfl dX11_readProduct_78 rfl (hU _ _ _ _ _ (p1 + 1) n1 _ (by omega) hRM hT1 h150 (by omega) (by omega) hNB1 (fun e78 p78 I78 a78 n78 eq78 lt78 hp78 ha78 es78 hn78 hnn78 hNB78 hV78 hE78 hF78 => ?_) (fun k78 q78 I78 a78 eq78 hk78 hk378 hq78 ha78 hF78 => ?_))
          · refine Kq_v (k' := 0) (sl' := 0) rfl rfl ?_
            have hT78 := hF78.T hT1
            refine V_aload_n 82 1 rfl _ rfl rfl dX11_readProduct_81 rfl ?_
            refine V_iload_n 83 0 rfl rfl dX11_readProduct_82 rfl ?_
            refine V_iconst 84 (0) rfl dX11_readProduct_83 rfl ?_
            have hj84 := em_o (n := n) (c := 4) hNB78 (by omega) (by decide) (by decide) (hV1.ext (by omega) hE78 (Nat.le_refl _)) hV78 (by omega) (by omega)
            refine V_callV (K' := 0) (S' := 0) 87 69 11 2 [.int 4, .int 0] mkX11_emit lkX11_255 (by decide) rfl rfl (by decide) rfl (Nat.le_of_ble_eq_true rfl) (Nat.le_of_ble_eq_true rfl) (Nat.le_of_ble_eq_true rfl) (Nat.le_of_ble_eq_true rfl) rfl rfl dX11_readProduct_84 rfl (c_X11_emit hRM hNB78.1 (by omega) ?_)
            refine Kq_v (k' := 0) (sl' := 0) rfl rfl ?_
            refine V_goto 4 rfl dX11_readProduct_87 ?_
            exact V_lv [1] rfl (ih (n78 + 1) _ a78 p78 _ (by omega) es78 ha78 (by omega) hp78 (by omega) (by omega) hj84.1 hj84.2 ((hE1.tr hE78 (by omega)).tr em_ex (by omega)) ((hF1.tr hF78).tr em_fr) (eq.trans ((if_pos cs).trans ((bd_ok eq78).trans (by rw [c4]; rfl)))))
          · refine Kq_v (k' := 0) (sl' := 0) rfl rfl ?_
            have hT78 := hF78.T hT1
            have nb78 : ¬ nI q78 = -1 := nI_ne (by omega)
            refine V_aload_n 82 1 rfl _ rfl rfl dX11_readProduct_81 rfl ?_
            refine V_iload_n 83 0 rfl rfl dX11_readProduct_82 rfl ?_
            refine V_iconst 84 (0) rfl dX11_readProduct_83 rfl ?_
            refine V_callV (K' := 0) (S' := 0) 87 69 11 2 [.int 4, .int 0] mkX11_emit lkX11_255 (by decide) rfl rfl (by decide) rfl (Nat.le_of_ble_eq_true rfl) (Nat.le_of_ble_eq_true rfl) (Nat.le_of_ble_eq_true rfl) (Nat.le_of_ble_eq_true rfl) rfl rfl dX11_readProduct_84 rfl (c_X11_emitF nb78 ?_)
            refine Kq_v (k' := 0) (sl' := 0) rfl rfl ?_
            refine V_goto 4 rfl dX11_readProduct_87 ?_
            exact V_lv [1] rfl (hexit _ _ _ _ hk78 hk378 hq78 ha78 (hF1.tr hF78) (eq.trans ((if_pos cs).trans (bd_no eq78))))
        · rw [← e1n] at eq n2 n4
          refine V_aload_n 5 0 rfl _ rfl rfl dX11_readProduct_4 rfl ?_
          refine V_callV (K' := 0) (S' := 0) 8 69 11 0 [] mkX11_fine lkX11_152 (by decide) rfl rfl (by decide) rfl (Nat.le_of_ble_eq_true rfl) (Nat.le_of_ble_eq_true rfl) (Nat.le_of_ble_eq_true rfl) (Nat.le_of_ble_eq_true rfl) rfl rfl dX11_readProduct_5 rfl (c_X11_fine (fun _ => ?_) (fun e => absurd rfl e))
          refine Kq_i (k' := 0) (sl' := 0) rfl rfl ?_
          refine V_if_eq 90 11 rfl dX11_readProduct_8 rfl (fun c8 => absurd c8 (by decide)) (fun c8 => ?_)
          refine V_aload_n 12 0 rfl _ rfl rfl dX11_readProduct_11 rfl ?_
          refine V_callV (K' := 0) (S' := 0) 15 69 11 0 [] mkX11_here lkX11_135 (by decide) rfl rfl (by decide) rfl (Nat.le_of_ble_eq_true rfl) (Nat.le_of_ble_eq_true rfl) (Nat.le_of_ble_eq_true rfl) (Nat.le_of_ble_eq_true rfl) rfl rfl dX11_readProduct_12 rfl (c_X11_here hRM (TxM.ox (o := o) hT1) ha1 ?_)
          rw [hes]
          rw [if_pos cz, c4, show nI 47 = (47 : Int32) from rfl]
          refine Kq_i (k' := 0) (sl' := 0) rfl rfl ?_
          refine V_bipush 17 (42) rfl dX11_readProduct_15 rfl ?_
          refine V_icmp_eq 38 20 rfl dX11_readProduct_17 rfl (fun c17 => absurd c17 (by decide)) (fun c17 => ?_)
          refine V_aload_n 21 0 rfl _ rfl rfl dX11_readProduct_20 rfl ?_
          refine V_callV (K' := 0) (S' := 0) 24 69 11 0 [] mkX11_here lkX11_135 (by decide) rfl rfl (by decide) rfl (Nat.le_of_ble_eq_true rfl) (Nat.le_of_ble_eq_true rfl) (Nat.le_of_ble_eq_true rfl) (Nat.le_of_ble_eq_true rfl) rfl rfl dX11_readProduct_21 rfl (c_X11_here hRM (TxM.ox (o := o) hT1) hp1 ?_)
          rw [esk1]
          rw [if_pos cz, c4, show nI 47 = (47 : Int32) from rfl]
          refine Kq_i (k' := 0) (sl' := 0) rfl rfl ?_
          refine V_bipush 26 (47) rfl dX11_readProduct_24 rfl ?_
          refine V_icmp_eq 38 29 rfl dX11_readProduct_26 rfl (fun c26 => ?_) (fun c26 => absurd c26 (by decide))
          refine V_aload_n 39 0 rfl _ rfl rfl dX11_readProduct_38 rfl ?_
          refine V_callV (K' := 0) (S' := 0) 42 69 11 0 [] mkX11_here lkX11_135 (by decide) rfl rfl (by decide) rfl (Nat.le_of_ble_eq_true rfl) (Nat.le_of_ble_eq_true rfl) (Nat.le_of_ble_eq_true rfl) (Nat.le_of_ble_eq_true rfl) rfl rfl dX11_readProduct_39 rfl (c_X11_here hRM (TxM.ox (o := o) hT1) hp1 ?_)
          rw [esk1]
          rw [if_pos cz, c4, show nI 47 = (47 : Int32) from rfl]
          refine Kq_i (k' := 0) (sl' := 0) rfl rfl ?_
          refine V_bipush 44 (42) rfl dX11_readProduct_42 rfl ?_
          refine V_icmp_ne 51 47 rfl dX11_readProduct_44 rfl (fun c44 => ?_) (fun c44 => absurd c44 (by decide))
          refine V_aload_n 52 0 rfl _ rfl rfl dX11_readProduct_51 rfl ?_
          refine V_callV (K' := 0) (S' := 0) 55 69 11 0 [] mkX11_here lkX11_135 (by decide) rfl rfl (by decide) rfl (Nat.le_of_ble_eq_true rfl) (Nat.le_of_ble_eq_true rfl) (Nat.le_of_ble_eq_true rfl) (Nat.le_of_ble_eq_true rfl) rfl rfl dX11_readProduct_52 rfl (c_X11_here hRM (TxM.ox (o := o) hT1) hp1 ?_)
          rw [esk1]
          rw [if_pos cz, c4, show nI 47 = (47 : Int32) from rfl]
          refine Kq_i (k' := 0) (sl' := 0) rfl rfl ?_
          refine V_bipush 57 (47) rfl dX11_readProduct_55 rfl ?_
          refine V_icmp_ne 64 60 rfl dX11_readProduct_57 rfl (fun c57 => absurd c57 (by decide)) (fun c57 => ?_)
          refine V_iconst 61 (5) rfl dX11_readProduct_60 rfl ?_
          refine V_goto 66 rfl dX11_readProduct_61 ?_
          refine V_istore_n 67 [(1, .int 5), (0, rf G 69)] (by decide) rfl rfl dX11_readProduct_66 rfl ?_
          refine V_aload_n 68 1 rfl _ rfl rfl dX11_readProduct_67 rfl ?_
          refine V_dup 69 rfl dX11_readProduct_68 rfl ?_
          refine V_getI 72 69 11 4 (nI p1) rfl flX11_129 rfl rfl rfl (by decide) dX11_readProduct_69 rfl ?_
          refine V_iconst 73 (1) rfl dX11_readProduct_72 rfl ?_
          refine V_iadd 74 dX11_readProduct_73 rfl ?_
          refine V_rw (nI_add p1 1) ?_
          refine V_putI 77 69 11 4 flX11_129 rfl rfl rfl (by decide) rfl dX11_readProduct_74 rfl ?_
          rw [lx_a]
          refine V_aload_n 78 1 rfl _ rfl rfl dX11_readProduct_77 rfl ?_
          refine V_callV (K' := 0) (S' := 0) 81 69 11 0 [] mkX11_readUnit lkX11_258 (by decide) rfl rfl (by decide) rfl (Nat.le_of_ble_eq_true rfl) (Nat.le_of_ble_eq_true rfl) (Nat.le_of_ble_eq_true rfl) (Nat.le_of_ble_eq_true rfl) rfl rfl dX11_readProduct_78 rfl (hU _ _ _ _ _ (p1 + 1) n1 _ (by omega) hRM hT1 h150 (by omega) (by omega) hNB1 (fun e78 p78 I78 a78 n78 eq78 lt78 hp78 ha78 es78 hn78 hnn78 hNB78 hV78 hE78 hF78 => ?_) (fun k78 q78 I78 a78 eq78 hk78 hk378 hq78 ha78 hF78 => ?_))
          · refine Kq_v (k' := 0) (sl' := 0) rfl rfl ?_
            have hT78 := hF78.T hT1
            refine V_aload_n 82 1 rfl _ rfl rfl dX11_readProduct_81 rfl ?_
            refine V_iload_n 83 0 rfl rfl dX11_readProduct_82 rfl ?_
            refine V_iconst 84 (0) rfl dX11_readProduct_83 rfl ?_
            have hj84 := em_o (n := n) (c := 5) hNB78 (by omega) (by decide) (by decide) (hV1.ext (by omega) hE78 (Nat.le_refl _)) hV78 (by omega) (by omega)
            refine V_callV (K' := 0) (S' := 0) 87 69 11 2 [.int 5, .int 0] mkX11_emit lkX11_255 (by decide) rfl rfl (by decide) rfl (Nat.le_of_ble_eq_true rfl) (Nat.le_of_ble_eq_true rfl) (Nat.le_of_ble_eq_true rfl) (Nat.le_of_ble_eq_true rfl) rfl rfl dX11_readProduct_84 rfl (c_X11_emit hRM hNB78.1 (by omega) ?_)
            refine Kq_v (k' := 0) (sl' := 0) rfl rfl ?_
            refine V_goto 4 rfl dX11_readProduct_87 ?_
            exact V_lv [1] rfl (ih (n78 + 1) _ a78 p78 _ (by omega) es78 ha78 (by omega) hp78 (by omega) (by omega) hj84.1 hj84.2 ((hE1.tr hE78 (by omega)).tr em_ex (by omega)) ((hF1.tr hF78).tr em_fr) (eq.trans ((if_pos cs).trans ((bd_ok eq78).trans (by rw [c4]; rfl)))))
          · refine Kq_v (k' := 0) (sl' := 0) rfl rfl ?_
            have hT78 := hF78.T hT1
            have nb78 : ¬ nI q78 = -1 := nI_ne (by omega)
            refine V_aload_n 82 1 rfl _ rfl rfl dX11_readProduct_81 rfl ?_
            refine V_iload_n 83 0 rfl rfl dX11_readProduct_82 rfl ?_
            refine V_iconst 84 (0) rfl dX11_readProduct_83 rfl ?_
            refine V_callV (K' := 0) (S' := 0) 87 69 11 2 [.int 5, .int 0] mkX11_emit lkX11_255 (by decide) rfl rfl (by decide) rfl (Nat.le_of_ble_eq_true rfl) (Nat.le_of_ble_eq_true rfl) (Nat.le_of_ble_eq_true rfl) (Nat.le_of_ble_eq_true rfl) rfl rfl dX11_readProduct_84 rfl (c_X11_emitF nb78 ?_)
            refine Kq_v (k' := 0) (sl' := 0) rfl rfl ?_
            refine V_goto 4 rfl dX11_readProduct_87 ?_
            exact V_lv [1] rfl (hexit _ _ _ _ hk78 hk378 hq78 ha78 (hF1.tr hF78) (eq.trans ((if_pos cs).trans (bd_no eq78))))
        · rw [← e1n] at eq n2 n4
          refine V_aload_n 5 0 rfl _ rfl rfl dX11_readProduct_4 rfl ?_
          refine V_callV (K' := 0) (S' := 0) 8 69 11 0 [] mkX11_fine lkX11_152 (by decide) rfl rfl (by decide) rfl (Nat.le_of_ble_eq_true rfl) (Nat.le_of_ble_eq_true rfl) (Nat.le_of_ble_eq_true rfl) (Nat.le_of_ble_eq_true rfl) rfl rfl dX11_readProduct_5 rfl (c_X11_fine (fun _ => ?_) (fun e => absurd rfl e))
          refine Kq_i (k' := 0) (sl' := 0) rfl rfl ?_
          refine V_if_eq 90 11 rfl dX11_readProduct_8 rfl (fun c8 => absurd c8 (by decide)) (fun c8 => ?_)
          refine V_aload_n 12 0 rfl _ rfl rfl dX11_readProduct_11 rfl ?_
          refine V_callV (K' := 0) (S' := 0) 15 69 11 0 [] mkX11_here lkX11_135 (by decide) rfl rfl (by decide) rfl (Nat.le_of_ble_eq_true rfl) (Nat.le_of_ble_eq_true rfl) (Nat.le_of_ble_eq_true rfl) (Nat.le_of_ble_eq_true rfl) rfl rfl dX11_readProduct_12 rfl (c_X11_here hRM (TxM.ox (o := o) hT1) ha1 ?_)
          rw [hes]
          rw [if_pos cz, c4, show nI 37 = (37 : Int32) from rfl]
          refine Kq_i (k' := 0) (sl' := 0) rfl rfl ?_
          refine V_bipush 17 (42) rfl dX11_readProduct_15 rfl ?_
          refine V_icmp_eq 38 20 rfl dX11_readProduct_17 rfl (fun c17 => absurd c17 (by decide)) (fun c17 => ?_)
          refine V_aload_n 21 0 rfl _ rfl rfl dX11_readProduct_20 rfl ?_
          refine V_callV (K' := 0) (S' := 0) 24 69 11 0 [] mkX11_here lkX11_135 (by decide) rfl rfl (by decide) rfl (Nat.le_of_ble_eq_true rfl) (Nat.le_of_ble_eq_true rfl) (Nat.le_of_ble_eq_true rfl) (Nat.le_of_ble_eq_true rfl) rfl rfl dX11_readProduct_21 rfl (c_X11_here hRM (TxM.ox (o := o) hT1) hp1 ?_)
          rw [esk1]
          rw [if_pos cz, c4, show nI 37 = (37 : Int32) from rfl]
          refine Kq_i (k' := 0) (sl' := 0) rfl rfl ?_
          refine V_bipush 26 (47) rfl dX11_readProduct_24 rfl ?_
          refine V_icmp_eq 38 29 rfl dX11_readProduct_26 rfl (fun c26 => absurd c26 (by decide)) (fun c26 => ?_)
          refine V_aload_n 30 0 rfl _ rfl rfl dX11_readProduct_29 rfl ?_
          refine V_callV (K' := 0) (S' := 0) 33 69 11 0 [] mkX11_here lkX11_135 (by decide) rfl rfl (by decide) rfl (Nat.le_of_ble_eq_true rfl) (Nat.le_of_ble_eq_true rfl) (Nat.le_of_ble_eq_true rfl) (Nat.le_of_ble_eq_true rfl) rfl rfl dX11_readProduct_30 rfl (c_X11_here hRM (TxM.ox (o := o) hT1) hp1 ?_)
          rw [esk1]
          rw [if_pos cz, c4, show nI 37 = (37 : Int32) from rfl]
          refine Kq_i (k' := 0) (sl' := 0) rfl rfl ?_
          refine V_bipush 35 (37) rfl dX11_readProduct_33 rfl ?_
          refine V_icmp_ne 90 38 rfl dX11_readProduct_35 rfl (fun c35 => absurd c35 (by decide)) (fun c35 => ?_)
          refine V_aload_n 39 0 rfl _ rfl rfl dX11_readProduct_38 rfl ?_
          refine V_callV (K' := 0) (S' := 0) 42 69 11 0 [] mkX11_here lkX11_135 (by decide) rfl rfl (by decide) rfl (Nat.le_of_ble_eq_true rfl) (Nat.le_of_ble_eq_true rfl) (Nat.le_of_ble_eq_true rfl) (Nat.le_of_ble_eq_true rfl) rfl rfl dX11_readProduct_39 rfl (c_X11_here hRM (TxM.ox (o := o) hT1) hp1 ?_)
          rw [esk1]
          rw [if_pos cz, c4, show nI 37 = (37 : Int32) from rfl]
          refine Kq_i (k' := 0) (sl' := 0) rfl rfl ?_
          refine V_bipush 44 (42) rfl dX11_readProduct_42 rfl ?_
          refine V_icmp_ne 51 47 rfl dX11_readProduct_44 rfl (fun c44 => ?_) (fun c44 => absurd c44 (by decide))
          refine V_aload_n 52 0 rfl _ rfl rfl dX11_readProduct_51 rfl ?_
          refine V_callV (K' := 0) (S' := 0) 55 69 11 0 [] mkX11_here lkX11_135 (by decide) rfl rfl (by decide) rfl (Nat.le_of_ble_eq_true rfl) (Nat.le_of_ble_eq_true rfl) (Nat.le_of_ble_eq_true rfl) (Nat.le_of_ble_eq_true rfl) rfl rfl dX11_readProduct_52 rfl (c_X11_here hRM (TxM.ox (o := o) hT1) hp1 ?_)
          rw [esk1]
          rw [if_pos cz, c4, show nI 37 = (37 : Int32) from rfl]
          refine Kq_i (k' := 0) (sl' := 0) rfl rfl ?_
          refine V_bipush 57 (47) rfl dX11_readProduct_55 rfl ?_
          refine V_icmp_ne 64 60 rfl dX11_readProduct_57 rfl (fun c57 => ?_) (fun c57 => absurd c57 (by decide))
          refine V_bipush 66 (8) rfl dX11_readProduct_64 rfl ?_
          refine V_istore_n 67 [(1, .int 8), (0, rf G 69)] (by decide) rfl rfl dX11_readProduct_66 rfl ?_
          refine V_aload_n 68 1 rfl _ rfl rfl dX11_readProduct_67 rfl ?_
          refine V_dup 69 rfl dX11_readProduct_68 rfl ?_
          refine V_getI 72 69 11 4 (nI p1) rfl flX11_129 rfl rfl rfl (by decide) dX11_readProduct_69 rfl ?_
          refine V_iconst 73 (1) rfl dX11_readProduct_72 rfl ?_
          refine V_iadd 74 dX11_readProduct_73 rfl ?_
          refine V_rw (nI_add p1 1) ?_
          refine V_putI 77 69 11 4 flX11_129 rfl rfl rfl (by decide) rfl dX11_readProduct_74 rfl ?_
          rw [lx_a]
          refine V_aload_n 78 1 rfl _ rfl rfl dX11_readProduct_77 rfl ?_
          refine V_callV (K' := 0) (S' := 0) 81 69 11 0 [] mkX11_readUnit lkX11_258 (by decide) rfl rfl (by decide) rfl (Nat.le_of_ble_eq_true rfl) (Nat.le_of_ble_eq_true rfl) (Nat.le_of_ble_eq_true rfl) (Nat.le_of_ble_eq_true rfl) rfl rfl dX11_readProduct_78 rfl (hU _ _ _ _ _ (p1 + 1) n1 _ (by omega) hRM hT1 h150 (by omega) (by omega) hNB1 (fun e78 p78 I78 a78 n78 eq78 lt78 hp78 ha78 es78 hn78 hnn78 hNB78 hV78 hE78 hF78 => ?_) (fun k78 q78 I78 a78 eq78 hk78 hk378 hq78 ha78 hF78 => ?_))
          · refine Kq_v (k' := 0) (sl' := 0) rfl rfl ?_
            have hT78 := hF78.T hT1
            refine V_aload_n 82 1 rfl _ rfl rfl dX11_readProduct_81 rfl ?_
            refine V_iload_n 83 0 rfl rfl dX11_readProduct_82 rfl ?_
            refine V_iconst 84 (0) rfl dX11_readProduct_83 rfl ?_
            have hj84 := em_o (n := n) (c := 8) hNB78 (by omega) (by decide) (by decide) (hV1.ext (by omega) hE78 (Nat.le_refl _)) hV78 (by omega) (by omega)
            refine V_callV (K' := 0) (S' := 0) 87 69 11 2 [.int 8, .int 0] mkX11_emit lkX11_255 (by decide) rfl rfl (by decide) rfl (Nat.le_of_ble_eq_true rfl) (Nat.le_of_ble_eq_true rfl) (Nat.le_of_ble_eq_true rfl) (Nat.le_of_ble_eq_true rfl) rfl rfl dX11_readProduct_84 rfl (c_X11_emit hRM hNB78.1 (by omega) ?_)
            refine Kq_v (k' := 0) (sl' := 0) rfl rfl ?_
            refine V_goto 4 rfl dX11_readProduct_87 ?_
            exact V_lv [1] rfl (ih (n78 + 1) _ a78 p78 _ (by omega) es78 ha78 (by omega) hp78 (by omega) (by omega) hj84.1 hj84.2 ((hE1.tr hE78 (by omega)).tr em_ex (by omega)) ((hF1.tr hF78).tr em_fr) (eq.trans ((if_pos cs).trans ((bd_ok eq78).trans (by rw [c4]; rfl)))))
          · refine Kq_v (k' := 0) (sl' := 0) rfl rfl ?_
            have hT78 := hF78.T hT1
            have nb78 : ¬ nI q78 = -1 := nI_ne (by omega)
            refine V_aload_n 82 1 rfl _ rfl rfl dX11_readProduct_81 rfl ?_
            refine V_iload_n 83 0 rfl rfl dX11_readProduct_82 rfl ?_
            refine V_iconst 84 (0) rfl dX11_readProduct_83 rfl ?_
            refine V_callV (K' := 0) (S' := 0) 87 69 11 2 [.int 8, .int 0] mkX11_emit lkX11_255 (by decide) rfl rfl (by decide) rfl (Nat.le_of_ble_eq_true rfl) (Nat.le_of_ble_eq_true rfl) (Nat.le_of_ble_eq_true rfl) (Nat.le_of_ble_eq_true rfl) rfl rfl dX11_readProduct_84 rfl (c_X11_emitF nb78 ?_)
            refine Kq_v (k' := 0) (sl' := 0) rfl rfl ?_
            refine V_goto 4 rfl dX11_readProduct_87 ?_
            exact V_lv [1] rfl (hexit _ _ _ _ hk78 hk378 hq78 ha78 (hF1.tr hF78) (eq.trans ((if_pos cs).trans (bd_no eq78))))
      · by_cases cz : p1 < z
        · refine V_aload_n 5 0 rfl _ rfl rfl dX11_readProduct_4 rfl ?_
          refine V_callV (K' := 0) (S' := 0) 8 69 11 0 [] mkX11_fine lkX11_152 (by decide) rfl rfl (by decide) rfl (Nat.le_of_ble_eq_true rfl) (Nat.le_of_ble_eq_true rfl) (Nat.le_of_ble_eq_true rfl) (Nat.le_of_ble_eq_true rfl) rfl rfl dX11_readProduct_5 rfl (c_X11_fine (fun _ => ?_) (fun e => absurd rfl e))
          refine Kq_i (k' := 0) (sl' := 0) rfl rfl ?_
          refine V_if_eq 90 11 rfl dX11_readProduct_8 rfl (fun c8 => absurd c8 (by decide)) (fun c8 => ?_)
          refine V_aload_n 12 0 rfl _ rfl rfl dX11_readProduct_11 rfl ?_
          refine V_callV (K' := 0) (S' := 0) 15 69 11 0 [] mkX11_here lkX11_135 (by decide) rfl rfl (by decide) rfl (Nat.le_of_ble_eq_true rfl) (Nat.le_of_ble_eq_true rfl) (Nat.le_of_ble_eq_true rfl) (Nat.le_of_ble_eq_true rfl) rfl rfl dX11_readProduct_12 rfl (c_X11_here hRM (TxM.ox (o := o) hT1) ha1 ?_)
          rw [hes]
          rw [if_pos cz]
          refine Kq_i (k' := 0) (sl' := 0) rfl rfl ?_
          refine V_bipush 17 (42) rfl dX11_readProduct_15 rfl ?_
          refine V_icmp_eq 38 20 rfl dX11_readProduct_17 rfl (fun c17 => absurd ((nI_eq (b := 42) (by have := hT.2.2.2 p1; omega) (by decide)).mp c17) (fun e => cs ⟨cz, Or.inl e⟩)) (fun c17 => ?_)
          refine V_aload_n 21 0 rfl _ rfl rfl dX11_readProduct_20 rfl ?_
          refine V_callV (K' := 0) (S' := 0) 24 69 11 0 [] mkX11_here lkX11_135 (by decide) rfl rfl (by decide) rfl (Nat.le_of_ble_eq_true rfl) (Nat.le_of_ble_eq_true rfl) (Nat.le_of_ble_eq_true rfl) (Nat.le_of_ble_eq_true rfl) rfl rfl dX11_readProduct_21 rfl (c_X11_here hRM (TxM.ox (o := o) hT1) hp1 ?_)
          rw [esk1]
          rw [if_pos cz]
          refine Kq_i (k' := 0) (sl' := 0) rfl rfl ?_
          refine V_bipush 26 (47) rfl dX11_readProduct_24 rfl ?_
          refine V_icmp_eq 38 29 rfl dX11_readProduct_26 rfl (fun c26 => absurd ((nI_eq (b := 47) (by have := hT.2.2.2 p1; omega) (by decide)).mp c26) (fun e => cs ⟨cz, Or.inr (Or.inl e)⟩)) (fun c26 => ?_)
          refine V_aload_n 30 0 rfl _ rfl rfl dX11_readProduct_29 rfl ?_
          refine V_callV (K' := 0) (S' := 0) 33 69 11 0 [] mkX11_here lkX11_135 (by decide) rfl rfl (by decide) rfl (Nat.le_of_ble_eq_true rfl) (Nat.le_of_ble_eq_true rfl) (Nat.le_of_ble_eq_true rfl) (Nat.le_of_ble_eq_true rfl) rfl rfl dX11_readProduct_30 rfl (c_X11_here hRM (TxM.ox (o := o) hT1) hp1 ?_)
          rw [esk1]
          rw [if_pos cz]
          refine Kq_i (k' := 0) (sl' := 0) rfl rfl ?_
          refine V_bipush 35 (37) rfl dX11_readProduct_33 rfl ?_
          refine V_icmp_ne 90 38 rfl dX11_readProduct_35 rfl (fun c35 => ?_) (fun c35 => absurd ((nI_eq (b := 37) (by have := hT.2.2.2 p1; omega) (by decide)).mp c35) (fun e => cs ⟨cz, Or.inr (Or.inr (e))⟩))
          refine V_ret_v rfl (Nat.le_of_ble_eq_true rfl) (fun h => absurd h (by decide)) (Nat.le_of_ble_eq_true rfl) (hk e1 p1 I1 p1 n1 (eq.trans (if_neg cs)) hlt hp1 hp1 esk1 hnn hnz hNB1 hV1 hE1 hF1) dX11_readProduct_90
        · refine V_aload_n 5 0 rfl _ rfl rfl dX11_readProduct_4 rfl ?_
          refine V_callV (K' := 0) (S' := 0) 8 69 11 0 [] mkX11_fine lkX11_152 (by decide) rfl rfl (by decide) rfl (Nat.le_of_ble_eq_true rfl) (Nat.le_of_ble_eq_true rfl) (Nat.le_of_ble_eq_true rfl) (Nat.le_of_ble_eq_true rfl) rfl rfl dX11_readProduct_5 rfl (c_X11_fine (fun _ => ?_) (fun e => absurd rfl e))
          refine Kq_i (k' := 0) (sl' := 0) rfl rfl ?_
          refine V_if_eq 90 11 rfl dX11_readProduct_8 rfl (fun c8 => absurd c8 (by decide)) (fun c8 => ?_)
          refine V_aload_n 12 0 rfl _ rfl rfl dX11_readProduct_11 rfl ?_
          refine V_callV (K' := 0) (S' := 0) 15 69 11 0 [] mkX11_here lkX11_135 (by decide) rfl rfl (by decide) rfl (Nat.le_of_ble_eq_true rfl) (Nat.le_of_ble_eq_true rfl) (Nat.le_of_ble_eq_true rfl) (Nat.le_of_ble_eq_true rfl) rfl rfl dX11_readProduct_12 rfl (c_X11_here hRM (TxM.ox (o := o) hT1) ha1 ?_)
          rw [hes]
          rw [if_neg cz]
          refine Kq_i (k' := 0) (sl' := 0) rfl rfl ?_
          refine V_bipush 17 (42) rfl dX11_readProduct_15 rfl ?_
          refine V_icmp_eq 38 20 rfl dX11_readProduct_17 rfl (fun c17 => absurd c17 (by decide)) (fun c17 => ?_)
          refine V_aload_n 21 0 rfl _ rfl rfl dX11_readProduct_20 rfl ?_
          refine V_callV (K' := 0) (S' := 0) 24 69 11 0 [] mkX11_here lkX11_135 (by decide) rfl rfl (by decide) rfl (Nat.le_of_ble_eq_true rfl) (Nat.le_of_ble_eq_true rfl) (Nat.le_of_ble_eq_true rfl) (Nat.le_of_ble_eq_true rfl) rfl rfl dX11_readProduct_21 rfl (c_X11_here hRM (TxM.ox (o := o) hT1) hp1 ?_)
          rw [esk1]
          rw [if_neg cz]
          refine Kq_i (k' := 0) (sl' := 0) rfl rfl ?_
          refine V_bipush 26 (47) rfl dX11_readProduct_24 rfl ?_
          refine V_icmp_eq 38 29 rfl dX11_readProduct_26 rfl (fun c26 => absurd c26 (by decide)) (fun c26 => ?_)
          refine V_aload_n 30 0 rfl _ rfl rfl dX11_readProduct_29 rfl ?_
          refine V_callV (K' := 0) (S' := 0) 33 69 11 0 [] mkX11_here lkX11_135 (by decide) rfl rfl (by decide) rfl (Nat.le_of_ble_eq_true rfl) (Nat.le_of_ble_eq_true rfl) (Nat.le_of_ble_eq_true rfl) (Nat.le_of_ble_eq_true rfl) rfl rfl dX11_readProduct_30 rfl (c_X11_here hRM (TxM.ox (o := o) hT1) hp1 ?_)
          rw [esk1]
          rw [if_neg cz]
          refine Kq_i (k' := 0) (sl' := 0) rfl rfl ?_
          refine V_bipush 35 (37) rfl dX11_readProduct_33 rfl ?_
          refine V_icmp_ne 90 38 rfl dX11_readProduct_35 rfl (fun c35 => ?_) (fun c35 => absurd c35 (by decide))
          refine V_ret_v rfl (Nat.le_of_ble_eq_true rfl) (fun h => absurd h (by decide)) (Nat.le_of_ble_eq_true rfl) (hk e1 p1 I1 p1 n1 (eq.trans (if_neg cs)) hlt hp1 hp1 esk1 hnn hnz hNB1 hV1 hE1 hF1) dX11_readProduct_90
  show V _ _ _ _ _ _ _ _ [(0, rf G 69)] [] _ _ _ _ _
  refine V_aload_n 1 0 rfl _ rfl rfl dX11_readProduct_0 rfl ?_
  refine V_callV (K' := 0) (S' := 0) 4 69 11 0 [] mkX11_readUnit lkX11_258 (by decide) rfl rfl (by decide) rfl (Nat.le_of_ble_eq_true rfl) (Nat.le_of_ble_eq_true rfl) (Nat.le_of_ble_eq_true rfl) (Nat.le_of_ble_eq_true rfl) rfl rfl dX11_readProduct_1 rfl (hU _ _ _ _ _ a n _ (by omega) hRM hT h150 ha (by rw [← ep]; exact hn) hNB (fun e1 p1 I1 a1 n1 eq1 lt1 hp1 ha1 es1 hn1 hnn1 hNB1 hV1 hE1 hF1 => ?_) (fun k1 q1 I1 a1 eq1 hk1 hk31 hq1 ha1 hF1 => ?_))
  · refine Kq_v (k' := 0) (sl' := 0) rfl rfl ?_
    have hT1 := hF1.T hT
    rw [← ep] at eq1 lt1 hnn1
    exact L z n1 e1 a1 p1 I1 (by omega) es1 ha1 lt1 hp1 hn1 hnn1 hNB1 hV1 hE1 hF1 (bd_ok eq1)
  · refine Kq_v (k' := 0) (sl' := 0) rfl rfl ?_
    have hT1 := hF1.T hT
    have nb1 : ¬ nI q1 = -1 := nI_ne (by omega)
    rw [← ep] at eq1
    exact hexit _ _ _ _ hk1 hk31 hq1 ha1 hF1 (bd_no eq1)
set_option maxHeartbeats 8000000 in
theorem c_X11_readSum {G : Gx} {t : Nat → Nat} {z o D0 : Nat} {u : Nat → FT ⊕ (LE × Nat)} (hU : LMt G mX11_readProduct D0 o [] t z u) : LMt G mX11_readSum (D0 + 10) o [] t z (fun p => bd (u p) (fun x => pSumL u t z z x.1 x.2)) := by
  intro d I R J Q a n k hd hRM hT h150 ha hn hNB hk hb
  obtain ⟨m, rfl⟩ : ∃ m, d = m + 10 := ⟨d - 10, by omega⟩
  have h6 := hT.2.1
  obtain ⟨hs1, hs2, hs3⟩ := sk_z (t := t) ha
  have esk := sk_sk (t := t) ha
  obtain ⟨p, ep⟩ : ∃ p, p = sk t z a := ⟨_, rfl⟩
  rw [← ep] at hn hk hb hs1 hs2 esk
  have hexit : ∀ a1 I1 kd q, 0 < kd → kd ≤ 3 → q ≤ z → a1 ≤ z → FrN I I1 → bd (u p) (fun x => pSumL u t z z x.1 x.2) = .inl (kd, q) → V G mX11_readSum (m + 10) 0 0 0 0 4 [(0, rf G 69)] [] 103 (lx (ox I1 o) a1 (nI q) (nI kd)) R J Q := by
    intro a1 I1 kd q hk1 hk3 hq ha1 hF e1
    have nb : ¬ nI q = -1 := nI_ne (by omega)
    refine V_aload_n 5 0 rfl _ rfl rfl dX11_readSum_4 rfl ?_
    refine V_callV (K' := 0) (S' := 0) 8 69 11 0 [] mkX11_fine lkX11_152 (by decide) rfl rfl (by decide) rfl (Nat.le_of_ble_eq_true rfl) (Nat.le_of_ble_eq_true rfl) (Nat.le_of_ble_eq_true rfl) (Nat.le_of_ble_eq_true rfl) rfl rfl dX11_readSum_5 rfl (c_X11_fine (fun e => absurd e nb) (fun _ => ?_))
    refine Kq_i (k' := 0) (sl' := 0) rfl rfl ?_
    refine V_if_eq 67 11 rfl dX11_readSum_8 rfl (fun c8 => ?_) (fun c8 => absurd c8 (by decide))
    refine V_ret_v rfl (Nat.le_of_ble_eq_true rfl) (fun h => absurd h (by decide)) (Nat.le_of_ble_eq_true rfl) (hb _ _ _ _ e1 hk1 hk3 hq ha1 hF) dX11_readSum_67
  have L : ∀ f n1 e1 a1 p1 I1, z - p1 ≤ f → sk t z a1 = p1 → a1 ≤ z → p < p1 → p1 ≤ z → n < n1 → n1 + p ≤ n + p1 → NB I1 n1 → VS I1 n n1 e1 → ExM I I1 n → FrN I I1 → bd (u p) (fun x => pSumL u t z z x.1 x.2) = pSumL u t z f e1 p1 → V G mX11_readSum (m + 10) 0 0 0 0 4 [(0, rf G 69)] [] 103 (lx (ox I1 o) a1 (-1) k) R J Q := by
    intro f
    induction f with
    | zero =>
      intro n1 e1 a1 p1 I1 hf hes ha1 hlt hp1 hnn hnz hNB1 hV1 hE1 hF1 eq
      have hT1 := hF1.T hT
      have esk1 : sk t z p1 = p1 := by rw [← hes]; exact sk_sk ha1
      have cz : ¬ p1 < z := by omega
      refine V_aload_n 5 0 rfl _ rfl rfl dX11_readSum_4 rfl ?_
      refine V_callV (K' := 0) (S' := 0) 8 69 11 0 [] mkX11_fine lkX11_152 (by decide) rfl rfl (by decide) rfl (Nat.le_of_ble_eq_true rfl) (Nat.le_of_ble_eq_true rfl) (Nat.le_of_ble_eq_true rfl) (Nat.le_of_ble_eq_true rfl) rfl rfl dX11_readSum_5 rfl (c_X11_fine (fun _ => ?_) (fun e => absurd rfl e))
      refine Kq_i (k' := 0) (sl' := 0) rfl rfl ?_
      refine V_if_eq 67 11 rfl dX11_readSum_8 rfl (fun c8 => absurd c8 (by decide)) (fun c8 => ?_)
      refine V_aload_n 12 0 rfl _ rfl rfl dX11_readSum_11 rfl ?_
      refine V_callV (K' := 0) (S' := 0) 15 69 11 0 [] mkX11_here lkX11_135 (by decide) rfl rfl (by decide) rfl (Nat.le_of_ble_eq_true rfl) (Nat.le_of_ble_eq_true rfl) (Nat.le_of_ble_eq_true rfl) (Nat.le_of_ble_eq_true rfl) rfl rfl dX11_readSum_12 rfl (c_X11_here hRM (TxM.ox (o := o) hT1) ha1 ?_)
      rw [hes]
      rw [if_neg cz]
      refine Kq_i (k' := 0) (sl' := 0) rfl rfl ?_
      refine V_bipush 17 (43) rfl dX11_readSum_15 rfl ?_
      refine V_icmp_eq 29 20 rfl dX11_readSum_17 rfl (fun c17 => absurd c17 (by decide)) (fun c17 => ?_)
      refine V_aload_n 21 0 rfl _ rfl rfl dX11_readSum_20 rfl ?_
      refine V_callV (K' := 0) (S' := 0) 24 69 11 0 [] mkX11_here lkX11_135 (by decide) rfl rfl (by decide) rfl (Nat.le_of_ble_eq_true rfl) (Nat.le_of_ble_eq_true rfl) (Nat.le_of_ble_eq_true rfl) (Nat.le_of_ble_eq_true rfl) rfl rfl dX11_readSum_21 rfl (c_X11_here hRM (TxM.ox (o := o) hT1) hp1 ?_)
      rw [esk1]
      rw [if_neg cz]
      refine Kq_i (k' := 0) (sl' := 0) rfl rfl ?_
      refine V_bipush 26 (45) rfl dX11_readSum_24 rfl ?_
      refine V_icmp_ne 67 29 rfl dX11_readSum_26 rfl (fun c26 => ?_) (fun c26 => absurd c26 (by decide))
      refine V_ret_v rfl (Nat.le_of_ble_eq_true rfl) (fun h => absurd h (by decide)) (Nat.le_of_ble_eq_true rfl) (hk e1 p1 I1 p1 n1 eq hlt hp1 hp1 esk1 hnn hnz hNB1 hV1 hE1 hF1) dX11_readSum_67
    | succ f ih =>
      intro n1 e1 a1 p1 I1 hf hes ha1 hlt hp1 hnn hnz hNB1 hV1 hE1 hF1 eq
      have hT1 := hF1.T hT
      have esk1 : sk t z p1 = p1 := by rw [← hes]; exact sk_sk ha1
      rw [pSumL] at eq
      by_cases cs : p1 < z ∧ (t p1 = 43 ∨ t p1 = 45)
      · have cz := cs.1
        have e1n : sk t z (p1 + 1) = nx t z p1 := by unfold nx enF; rw [if_neg (by omega)]; rcases cs.2 with e | e <;> rw [e, if_neg (by decide), if_neg (by decide)]
        obtain ⟨-, n2, n3⟩ := nx_z (t := t) hp1
        have n4 := n3 cz
        rcases cs.2 with c4 | c4
        · rw [← e1n] at eq n2 n4
          refine V_aload_n 5 0 rfl _ rfl rfl dX11_readSum_4 rfl ?_
          refine V_callV (K' := 0) (S' := 0) 8 69 11 0 [] mkX11_fine lkX11_152 (by decide) rfl rfl (by decide) rfl (Nat.le_of_ble_eq_true rfl) (Nat.le_of_ble_eq_true rfl) (Nat.le_of_ble_eq_true rfl) (Nat.le_of_ble_eq_true rfl) rfl rfl dX11_readSum_5 rfl (c_X11_fine (fun _ => ?_) (fun e => absurd rfl e))
          refine Kq_i (k' := 0) (sl' := 0) rfl rfl ?_
          refine V_if_eq 67 11 rfl dX11_readSum_8 rfl (fun c8 => absurd c8 (by decide)) (fun c8 => ?_)
          refine V_aload_n 12 0 rfl _ rfl rfl dX11_readSum_11 rfl ?_
          refine V_callV (K' := 0) (S' := 0) 15 69 11 0 [] mkX11_here lkX11_135 (by decide) rfl rfl (by decide) rfl (Nat.le_of_ble_eq_true rfl) (Nat.le_of_ble_eq_true rfl) (Nat.le_of_ble_eq_true rfl) (Nat.le_of_ble_eq_true rfl) rfl rfl dX11_readSum_12 rfl (c_X11_here hRM (TxM.ox (o := o) hT1) ha1 ?_)
          rw [hes]
          rw [if_pos cz, c4, show nI 43 = (43 : Int32) from rfl]
          refine Kq_i (k' := 0) (sl' := 0) rfl rfl ?_
          refine V_bipush 17 (43) rfl dX11_readSum_15 rfl ?_
          refine V_icmp_eq 29 20 rfl dX11_readSum_17 rfl (fun c17 => ?_) (fun c17 => absurd c17 (by decide))
          refine V_aload_n 30 0 rfl _ rfl rfl dX11_readSum_29 rfl ?_
          refine V_callV (K' := 0) (S' := 0) 33 69 11 0 [] mkX11_here lkX11_135 (by decide) rfl rfl (by decide) rfl (Nat.le_of_ble_eq_true rfl) (Nat.le_of_ble_eq_true rfl) (Nat.le_of_ble_eq_true rfl) (Nat.le_of_ble_eq_true rfl) rfl rfl dX11_readSum_30 rfl (c_X11_here hRM (TxM.ox (o := o) hT1) hp1 ?_)
          rw [esk1]
          rw [if_pos cz, c4, show nI 43 = (43 : Int32) from rfl]
          refine Kq_i (k' := 0) (sl' := 0) rfl rfl ?_
          refine V_bipush 35 (43) rfl dX11_readSum_33 rfl ?_
          refine V_icmp_ne 42 38 rfl dX11_readSum_35 rfl (fun c35 => absurd c35 (by decide)) (fun c35 => ?_)
          refine V_iconst 39 (2) rfl dX11_readSum_38 rfl ?_
          refine V_goto 43 rfl dX11_readSum_39 ?_
          refine V_istore_n 44 [(1, .int 2), (0, rf G 69)] (by decide) rfl rfl dX11_readSum_43 rfl ?_
          refine V_aload_n 45 1 rfl _ rfl rfl dX11_readSum_44 rfl ?_
          refine V_dup 46 rfl dX11_readSum_45 rfl ?_
          refine V_getI 49 69 11 4 (nI p1) rfl flX11_129 rfl rfl rfl (by decide) dX11_readSum_46 rfl ?_
          refine V_iconst 50 (1) rfl dX11_readSum_49 rfl ?_
          refine V_iadd 51 dX11_readSum_50 rfl ?_
          refine V_rw (nI_add p1 1) ?_
          refine V_putI 54 69 11 4 flX11_129 rfl rfl rfl (by decide) rfl dX11_readSum_51 rfl ?_
          rw [lx_a]
          refine V_aload_n 55 1 rfl _ rfl rfl dX11_readSum_54 rfl ?_
          refine V_callV (K' := 0) (S' := 0) 58 69 11 0 [] mkX11_readProduct lkX11_252 (by decide) rfl rfl (by decide) rfl (Nat.le_of_ble_eq_true rfl) (Nat.le_of_ble_eq_true rfl) (Nat.le_of_ble_eq_true rfl) (Nat.le_of_ble_eq_true rfl) rfl rfl dX11_readSum_55 rfl (hU _ _ _ _ _ (p1 + 1) n1 _ (by omega) hRM hT1 h150 (by omega) (by omega) hNB1 (fun e55 p55 I55 a55 n55 eq55 lt55 hp55 ha55 es55 hn55 hnn55 hNB55 hV55 hE55 hF55 => ?_) (fun k55 q55 I55 a55 eq55 hk55 hk355 hq55 ha55 hF55 => ?_))
          · refine Kq_v (k' := 0) (sl' := 0) rfl rfl ?_
            have hT55 := hF55.T hT1
            refine V_aload_n 59 1 rfl _ rfl rfl dX11_readSum_58 rfl ?_
            refine V_iload_n 60 0 rfl rfl dX11_readSum_59 rfl ?_
            refine V_iconst 61 (0) rfl dX11_readSum_60 rfl ?_
            have hj61 := em_o (n := n) (c := 2) hNB55 (by omega) (by decide) (by decide) (hV1.ext (by omega) hE55 (Nat.le_refl _)) hV55 (by omega) (by omega)
            refine V_callV (K' := 0) (S' := 0) 64 69 11 2 [.int 2, .int 0] mkX11_emit lkX11_255 (by decide) rfl rfl (by decide) rfl (Nat.le_of_ble_eq_true rfl) (Nat.le_of_ble_eq_true rfl) (Nat.le_of_ble_eq_true rfl) (Nat.le_of_ble_eq_true rfl) rfl rfl dX11_readSum_61 rfl (c_X11_emit hRM hNB55.1 (by omega) ?_)
            refine Kq_v (k' := 0) (sl' := 0) rfl rfl ?_
            refine V_goto 4 rfl dX11_readSum_64 ?_
            exact V_lv [1] rfl (ih (n55 + 1) _ a55 p55 _ (by omega) es55 ha55 (by omega) hp55 (by omega) (by omega) hj61.1 hj61.2 ((hE1.tr hE55 (by omega)).tr em_ex (by omega)) ((hF1.tr hF55).tr em_fr) (eq.trans ((if_pos cs).trans ((bd_ok eq55).trans (by rw [c4]; rfl)))))
          · refine Kq_v (k' := 0) (sl' := 0) rfl rfl ?_
            have hT55 := hF55.T hT1
            have nb55 : ¬ nI q55 = -1 := nI_ne (by omega)
            refine V_aload_n 59 1 rfl _ rfl rfl dX11_readSum_58 rfl ?_
            refine V_iload_n 60 0 rfl rfl dX11_readSum_59 rfl ?_
            refine V_iconst 61 (0) rfl dX11_readSum_60 rfl ?_
            refine V_callV (K' := 0) (S' := 0) 64 69 11 2 [.int 2, .int 0] mkX11_emit lkX11_255 (by decide) rfl rfl (by decide) rfl (Nat.le_of_ble_eq_true rfl) (Nat.le_of_ble_eq_true rfl) (Nat.le_of_ble_eq_true rfl) (Nat.le_of_ble_eq_true rfl) rfl rfl dX11_readSum_61 rfl (c_X11_emitF nb55 ?_)
            refine Kq_v (k' := 0) (sl' := 0) rfl rfl ?_
            refine V_goto 4 rfl dX11_readSum_64 ?_
            exact V_lv [1] rfl (hexit _ _ _ _ hk55 hk355 hq55 ha55 (hF1.tr hF55) (eq.trans ((if_pos cs).trans (bd_no eq55))))
        · rw [← e1n] at eq n2 n4
          refine V_aload_n 5 0 rfl _ rfl rfl dX11_readSum_4 rfl ?_
          refine V_callV (K' := 0) (S' := 0) 8 69 11 0 [] mkX11_fine lkX11_152 (by decide) rfl rfl (by decide) rfl (Nat.le_of_ble_eq_true rfl) (Nat.le_of_ble_eq_true rfl) (Nat.le_of_ble_eq_true rfl) (Nat.le_of_ble_eq_true rfl) rfl rfl dX11_readSum_5 rfl (c_X11_fine (fun _ => ?_) (fun e => absurd rfl e))
          refine Kq_i (k' := 0) (sl' := 0) rfl rfl ?_
          refine V_if_eq 67 11 rfl dX11_readSum_8 rfl (fun c8 => absurd c8 (by decide)) (fun c8 => ?_)
          refine V_aload_n 12 0 rfl _ rfl rfl dX11_readSum_11 rfl ?_
          refine V_callV (K' := 0) (S' := 0) 15 69 11 0 [] mkX11_here lkX11_135 (by decide) rfl rfl (by decide) rfl (Nat.le_of_ble_eq_true rfl) (Nat.le_of_ble_eq_true rfl) (Nat.le_of_ble_eq_true rfl) (Nat.le_of_ble_eq_true rfl) rfl rfl dX11_readSum_12 rfl (c_X11_here hRM (TxM.ox (o := o) hT1) ha1 ?_)
          rw [hes]
          rw [if_pos cz, c4, show nI 45 = (45 : Int32) from rfl]
          refine Kq_i (k' := 0) (sl' := 0) rfl rfl ?_
          refine V_bipush 17 (43) rfl dX11_readSum_15 rfl ?_
          refine V_icmp_eq 29 20 rfl dX11_readSum_17 rfl (fun c17 => absurd c17 (by decide)) (fun c17 => ?_)
          refine V_aload_n 21 0 rfl _ rfl rfl dX11_readSum_20 rfl ?_
          refine V_callV (K' := 0) (S' := 0) 24 69 11 0 [] mkX11_here lkX11_135 (by decide) rfl rfl (by decide) rfl (Nat.le_of_ble_eq_true rfl) (Nat.le_of_ble_eq_true rfl) (Nat.le_of_ble_eq_true rfl) (Nat.le_of_ble_eq_true rfl) rfl rfl dX11_readSum_21 rfl (c_X11_here hRM (TxM.ox (o := o) hT1) hp1 ?_)
          rw [esk1]
          rw [if_pos cz, c4, show nI 45 = (45 : Int32) from rfl]
          refine Kq_i (k' := 0) (sl' := 0) rfl rfl ?_
          refine V_bipush 26 (45) rfl dX11_readSum_24 rfl ?_
          refine V_icmp_ne 67 29 rfl dX11_readSum_26 rfl (fun c26 => absurd c26 (by decide)) (fun c26 => ?_)
          refine V_aload_n 30 0 rfl _ rfl rfl dX11_readSum_29 rfl ?_
          refine V_callV (K' := 0) (S' := 0) 33 69 11 0 [] mkX11_here lkX11_135 (by decide) rfl rfl (by decide) rfl (Nat.le_of_ble_eq_true rfl) (Nat.le_of_ble_eq_true rfl) (Nat.le_of_ble_eq_true rfl) (Nat.le_of_ble_eq_true rfl) rfl rfl dX11_readSum_30 rfl (c_X11_here hRM (TxM.ox (o := o) hT1) hp1 ?_)
          rw [esk1]
          rw [if_pos cz, c4, show nI 45 = (45 : Int32) from rfl]
          refine Kq_i (k' := 0) (sl' := 0) rfl rfl ?_
          refine V_bipush 35 (43) rfl dX11_readSum_33 rfl ?_
          refine V_icmp_ne 42 38 rfl dX11_readSum_35 rfl (fun c35 => ?_) (fun c35 => absurd c35 (by decide))
          refine V_iconst 43 (3) rfl dX11_readSum_42 rfl ?_
          refine V_istore_n 44 [(1, .int 3), (0, rf G 69)] (by decide) rfl rfl dX11_readSum_43 rfl ?_
          refine V_aload_n 45 1 rfl _ rfl rfl dX11_readSum_44 rfl ?_
          refine V_dup 46 rfl dX11_readSum_45 rfl ?_
          refine V_getI 49 69 11 4 (nI p1) rfl flX11_129 rfl rfl rfl (by decide) dX11_readSum_46 rfl ?_
          refine V_iconst 50 (1) rfl dX11_readSum_49 rfl ?_
          refine V_iadd 51 dX11_readSum_50 rfl ?_
          refine V_rw (nI_add p1 1) ?_
          refine V_putI 54 69 11 4 flX11_129 rfl rfl rfl (by decide) rfl dX11_readSum_51 rfl ?_
          rw [lx_a]
          refine V_aload_n 55 1 rfl _ rfl rfl dX11_readSum_54 rfl ?_
          refine V_callV (K' := 0) (S' := 0) 58 69 11 0 [] mkX11_readProduct lkX11_252 (by decide) rfl rfl (by decide) rfl (Nat.le_of_ble_eq_true rfl) (Nat.le_of_ble_eq_true rfl) (Nat.le_of_ble_eq_true rfl) (Nat.le_of_ble_eq_true rfl) rfl rfl dX11_readSum_55 rfl (hU _ _ _ _ _ (p1 + 1) n1 _ (by omega) hRM hT1 h150 (by omega) (by omega) hNB1 (fun e55 p55 I55 a55 n55 eq55 lt55 hp55 ha55 es55 hn55 hnn55 hNB55 hV55 hE55 hF55 => ?_) (fun k55 q55 I55 a55 eq55 hk55 hk355 hq55 ha55 hF55 => ?_))
          · refine Kq_v (k' := 0) (sl' := 0) rfl rfl ?_
            have hT55 := hF55.T hT1
            refine V_aload_n 59 1 rfl _ rfl rfl dX11_readSum_58 rfl ?_
            refine V_iload_n 60 0 rfl rfl dX11_readSum_59 rfl ?_
            refine V_iconst 61 (0) rfl dX11_readSum_60 rfl ?_
            have hj61 := em_o (n := n) (c := 3) hNB55 (by omega) (by decide) (by decide) (hV1.ext (by omega) hE55 (Nat.le_refl _)) hV55 (by omega) (by omega)
            refine V_callV (K' := 0) (S' := 0) 64 69 11 2 [.int 3, .int 0] mkX11_emit lkX11_255 (by decide) rfl rfl (by decide) rfl (Nat.le_of_ble_eq_true rfl) (Nat.le_of_ble_eq_true rfl) (Nat.le_of_ble_eq_true rfl) (Nat.le_of_ble_eq_true rfl) rfl rfl dX11_readSum_61 rfl (c_X11_emit hRM hNB55.1 (by omega) ?_)
            refine Kq_v (k' := 0) (sl' := 0) rfl rfl ?_
            refine V_goto 4 rfl dX11_readSum_64 ?_
            exact V_lv [1] rfl (ih (n55 + 1) _ a55 p55 _ (by omega) es55 ha55 (by omega) hp55 (by omega) (by omega) hj61.1 hj61.2 ((hE1.tr hE55 (by omega)).tr em_ex (by omega)) ((hF1.tr hF55).tr em_fr) (eq.trans ((if_pos cs).trans ((bd_ok eq55).trans (by rw [c4]; rfl)))))
          · refine Kq_v (k' := 0) (sl' := 0) rfl rfl ?_
            have hT55 := hF55.T hT1
            have nb55 : ¬ nI q55 = -1 := nI_ne (by omega)
            refine V_aload_n 59 1 rfl _ rfl rfl dX11_readSum_58 rfl ?_
            refine V_iload_n 60 0 rfl rfl dX11_readSum_59 rfl ?_
            refine V_iconst 61 (0) rfl dX11_readSum_60 rfl ?_
            refine V_callV (K' := 0) (S' := 0) 64 69 11 2 [.int 3, .int 0] mkX11_emit lkX11_255 (by decide) rfl rfl (by decide) rfl (Nat.le_of_ble_eq_true rfl) (Nat.le_of_ble_eq_true rfl) (Nat.le_of_ble_eq_true rfl) (Nat.le_of_ble_eq_true rfl) rfl rfl dX11_readSum_61 rfl (c_X11_emitF nb55 ?_)
            refine Kq_v (k' := 0) (sl' := 0) rfl rfl ?_
            refine V_goto 4 rfl dX11_readSum_64 ?_
            exact V_lv [1] rfl (hexit _ _ _ _ hk55 hk355 hq55 ha55 (hF1.tr hF55) (eq.trans ((if_pos cs).trans (bd_no eq55))))
      · by_cases cz : p1 < z
        · refine V_aload_n 5 0 rfl _ rfl rfl dX11_readSum_4 rfl ?_
          refine V_callV (K' := 0) (S' := 0) 8 69 11 0 [] mkX11_fine lkX11_152 (by decide) rfl rfl (by decide) rfl (Nat.le_of_ble_eq_true rfl) (Nat.le_of_ble_eq_true rfl) (Nat.le_of_ble_eq_true rfl) (Nat.le_of_ble_eq_true rfl) rfl rfl dX11_readSum_5 rfl (c_X11_fine (fun _ => ?_) (fun e => absurd rfl e))
          refine Kq_i (k' := 0) (sl' := 0) rfl rfl ?_
          refine V_if_eq 67 11 rfl dX11_readSum_8 rfl (fun c8 => absurd c8 (by decide)) (fun c8 => ?_)
          refine V_aload_n 12 0 rfl _ rfl rfl dX11_readSum_11 rfl ?_
          refine V_callV (K' := 0) (S' := 0) 15 69 11 0 [] mkX11_here lkX11_135 (by decide) rfl rfl (by decide) rfl (Nat.le_of_ble_eq_true rfl) (Nat.le_of_ble_eq_true rfl) (Nat.le_of_ble_eq_true rfl) (Nat.le_of_ble_eq_true rfl) rfl rfl dX11_readSum_12 rfl (c_X11_here hRM (TxM.ox (o := o) hT1) ha1 ?_)
          rw [hes]
          rw [if_pos cz]
          refine Kq_i (k' := 0) (sl' := 0) rfl rfl ?_
          refine V_bipush 17 (43) rfl dX11_readSum_15 rfl ?_
          refine V_icmp_eq 29 20 rfl dX11_readSum_17 rfl (fun c17 => absurd ((nI_eq (b := 43) (by have := hT.2.2.2 p1; omega) (by decide)).mp c17) (fun e => cs ⟨cz, Or.inl e⟩)) (fun c17 => ?_)
          refine V_aload_n 21 0 rfl _ rfl rfl dX11_readSum_20 rfl ?_
          refine V_callV (K' := 0) (S' := 0) 24 69 11 0 [] mkX11_here lkX11_135 (by decide) rfl rfl (by decide) rfl (Nat.le_of_ble_eq_true rfl) (Nat.le_of_ble_eq_true rfl) (Nat.le_of_ble_eq_true rfl) (Nat.le_of_ble_eq_true rfl) rfl rfl dX11_readSum_21 rfl (c_X11_here hRM (TxM.ox (o := o) hT1) hp1 ?_)
          rw [esk1]
          rw [if_pos cz]
          refine Kq_i (k' := 0) (sl' := 0) rfl rfl ?_
          refine V_bipush 26 (45) rfl dX11_readSum_24 rfl ?_
          refine V_icmp_ne 67 29 rfl dX11_readSum_26 rfl (fun c26 => ?_) (fun c26 => absurd ((nI_eq (b := 45) (by have := hT.2.2.2 p1; omega) (by decide)).mp c26) (fun e => cs ⟨cz, Or.inr (e)⟩))
          refine V_ret_v rfl (Nat.le_of_ble_eq_true rfl) (fun h => absurd h (by decide)) (Nat.le_of_ble_eq_true rfl) (hk e1 p1 I1 p1 n1 (eq.trans (if_neg cs)) hlt hp1 hp1 esk1 hnn hnz hNB1 hV1 hE1 hF1) dX11_readSum_67
        · refine V_aload_n 5 0 rfl _ rfl rfl dX11_readSum_4 rfl ?_
          refine V_callV (K' := 0) (S' := 0) 8 69 11 0 [] mkX11_fine lkX11_152 (by decide) rfl rfl (by decide) rfl (Nat.le_of_ble_eq_true rfl) (Nat.le_of_ble_eq_true rfl) (Nat.le_of_ble_eq_true rfl) (Nat.le_of_ble_eq_true rfl) rfl rfl dX11_readSum_5 rfl (c_X11_fine (fun _ => ?_) (fun e => absurd rfl e))
          refine Kq_i (k' := 0) (sl' := 0) rfl rfl ?_
          refine V_if_eq 67 11 rfl dX11_readSum_8 rfl (fun c8 => absurd c8 (by decide)) (fun c8 => ?_)
          refine V_aload_n 12 0 rfl _ rfl rfl dX11_readSum_11 rfl ?_
          refine V_callV (K' := 0) (S' := 0) 15 69 11 0 [] mkX11_here lkX11_135 (by decide) rfl rfl (by decide) rfl (Nat.le_of_ble_eq_true rfl) (Nat.le_of_ble_eq_true rfl) (Nat.le_of_ble_eq_true rfl) (Nat.le_of_ble_eq_true rfl) rfl rfl dX11_readSum_12 rfl (c_X11_here hRM (TxM.ox (o := o) hT1) ha1 ?_)
          rw [hes]
          rw [if_neg cz]
          refine Kq_i (k' := 0) (sl' := 0) rfl rfl ?_
          refine V_bipush 17 (43) rfl dX11_readSum_15 rfl ?_
          refine V_icmp_eq 29 20 rfl dX11_readSum_17 rfl (fun c17 => absurd c17 (by decide)) (fun c17 => ?_)
          refine V_aload_n 21 0 rfl _ rfl rfl dX11_readSum_20 rfl ?_
          refine V_callV (K' := 0) (S' := 0) 24 69 11 0 [] mkX11_here lkX11_135 (by decide) rfl rfl (by decide) rfl (Nat.le_of_ble_eq_true rfl) (Nat.le_of_ble_eq_true rfl) (Nat.le_of_ble_eq_true rfl) (Nat.le_of_ble_eq_true rfl) rfl rfl dX11_readSum_21 rfl (c_X11_here hRM (TxM.ox (o := o) hT1) hp1 ?_)
          rw [esk1]
          rw [if_neg cz]
          refine Kq_i (k' := 0) (sl' := 0) rfl rfl ?_
          refine V_bipush 26 (45) rfl dX11_readSum_24 rfl ?_
          refine V_icmp_ne 67 29 rfl dX11_readSum_26 rfl (fun c26 => ?_) (fun c26 => absurd c26 (by decide))
          refine V_ret_v rfl (Nat.le_of_ble_eq_true rfl) (fun h => absurd h (by decide)) (Nat.le_of_ble_eq_true rfl) (hk e1 p1 I1 p1 n1 (eq.trans (if_neg cs)) hlt hp1 hp1 esk1 hnn hnz hNB1 hV1 hE1 hF1) dX11_readSum_67
  show V _ _ _ _ _ _ _ _ [(0, rf G 69)] [] _ _ _ _ _
  refine V_aload_n 1 0 rfl _ rfl rfl dX11_readSum_0 rfl ?_
  refine V_callV (K' := 0) (S' := 0) 4 69 11 0 [] mkX11_readProduct lkX11_252 (by decide) rfl rfl (by decide) rfl (Nat.le_of_ble_eq_true rfl) (Nat.le_of_ble_eq_true rfl) (Nat.le_of_ble_eq_true rfl) (Nat.le_of_ble_eq_true rfl) rfl rfl dX11_readSum_1 rfl (hU _ _ _ _ _ a n _ (by omega) hRM hT h150 ha (by rw [← ep]; exact hn) hNB (fun e1 p1 I1 a1 n1 eq1 lt1 hp1 ha1 es1 hn1 hnn1 hNB1 hV1 hE1 hF1 => ?_) (fun k1 q1 I1 a1 eq1 hk1 hk31 hq1 ha1 hF1 => ?_))
  · refine Kq_v (k' := 0) (sl' := 0) rfl rfl ?_
    have hT1 := hF1.T hT
    rw [← ep] at eq1 lt1 hnn1
    exact L z n1 e1 a1 p1 I1 (by omega) es1 ha1 lt1 hp1 hn1 hnn1 hNB1 hV1 hE1 hF1 (bd_ok eq1)
  · refine Kq_v (k' := 0) (sl' := 0) rfl rfl ?_
    have hT1 := hF1.T hT
    have nb1 : ¬ nI q1 = -1 := nI_ne (by omega)
    rw [← ep] at eq1
    exact hexit _ _ _ _ hk1 hk31 hq1 ha1 hF1 (bd_no eq1)
set_option maxHeartbeats 8000000 in
theorem c_X11_readTwo {G : Gx} {t : Nat → Nat} {z o D0 : Nat} (ho : o < 6) {u : Nat → FT ⊕ (LE × Nat)} (hU : LMt G mX11_readSum D0 (o + 1) [] t z u) : ∀ (d : Nat) (I : FI) (R : FR) (J : FJ) (Q : Po) (p n y c : Nat) (k : Int32), D0 + 10 ≤ d → (∀ k, R 69 k = refM k) → TxM I t z → z ≤ 150 → p < z → p + y = enF t z p → n ≤ p → NB I n → 2 ≤ c → c ≤ 8 → (∀ e p' I' a' n', pPair u t z (mkN c) p = .inr (e, p') → p < p' → p' ≤ z → a' ≤ z → sk t z a' = p' → n < n' → n' + p ≤ n + p' → NB I' n' → VS I' n n' e → ExM I I' n → FrN I I' → Q (.inl none) 103 (lx (ox I' o) a' (-1) k) R J) → (∀ kd q I' a', pPair u t z (mkN c) p = .inl (kd, q) → 0 < kd → kd ≤ 3 → q ≤ z → a' ≤ z → FrN I I' → Q (.inl none) 103 (lx (ox I' o) a' (nI q) (nI kd)) R J) → Cc G mX11_readTwo d 0 0 [rf G 69, .int (nI y), .int (nI c)] 103 (lx (ox I o) p (-1) k) R J Q := by
  intro d I R J Q p n y c k hd hRM hT h150 hpz hy hn hNB hc hc8 hk hb
  obtain ⟨m, rfl⟩ : ∃ m, d = m + 10 := ⟨d - 10, by omega⟩
  have h6 := hT.2.1
  obtain ⟨n1, n2, n3⟩ := nx_z (t := t) (Nat.le_of_lt hpz)
  have n4 := n3 hpz
  have nxe : nx t z p = sk t z (enF t z p) := rfl
  have ha := (enF_z (t := t) (Nat.le_of_lt hpz)).2.1
  show V _ _ _ _ _ _ _ _ [(0, rf G 69), (1, .int (nI y)), (2, .int (nI c))] [] _ _ _ _ _
  refine V_aload_n 1 0 rfl _ rfl rfl dX11_readTwo_0 rfl ?_
  refine V_iload_n 2 1 rfl rfl dX11_readTwo_1 rfl ?_
  refine V_callV (K' := 0) (S' := 0) 5 69 11 1 [.int (nI y)] mkX11_opensOne lkX11_261 (by decide) rfl rfl (by decide) rfl (Nat.le_of_ble_eq_true rfl) (Nat.le_of_ble_eq_true rfl) (Nat.le_of_ble_eq_true rfl) (Nat.le_of_ble_eq_true rfl) rfl rfl dX11_readTwo_2 rfl (c_X11_opensOne ho ?_)
  rw [hy]
  refine Kq_v (k' := 0) (sl' := 0) rfl rfl ?_
  refine V_aload_n 6 0 rfl _ rfl rfl dX11_readTwo_5 rfl ?_
  refine V_bipush 8 (91) rfl dX11_readTwo_6 rfl ?_
  refine V_callV (K' := 0) (S' := 0) 11 69 11 1 [.int 91] mkX11_sign lkX11_242 (by decide) rfl rfl (by decide) rfl (Nat.le_of_ble_eq_true rfl) (Nat.le_of_ble_eq_true rfl) (Nat.le_of_ble_eq_true rfl) (Nat.le_of_ble_eq_true rfl) rfl rfl dX11_readTwo_8 rfl (c_X11_sign (c := 91) hRM (TxM.ox (o := o + 1) hT) (by decide) (by decide) ha (fun e => absurd rfl e) (fun _ z8 s8 => ?_) (fun _ e8 => ?_))
  · refine Kq_v (k' := 0) (sl' := 0) rfl rfl ?_
    have e8 : pSig t z 91 (sk t z (enF t z p)) = .inr (sk t z (sk t z (enF t z p) + 1)) := sig_ok z8 s8 (by decide) (by decide)
    have lz8 := (pSig_ok e8).2.2.2
    refine V_aload_n 12 0 rfl _ rfl rfl dX11_readTwo_11 rfl ?_
    refine V_callV (K' := 0) (S' := 0) 15 69 11 0 [] mkX11_readSum lkX11_264 (by decide) rfl rfl (by decide) rfl (Nat.le_of_ble_eq_true rfl) (Nat.le_of_ble_eq_true rfl) (Nat.le_of_ble_eq_true rfl) (Nat.le_of_ble_eq_true rfl) rfl rfl dX11_readTwo_12 rfl (hU _ _ _ _ _ (sk t z (enF t z p) + 1) n _ (by omega) hRM hT h150 (Nat.succ_le_of_lt z8) (by omega) hNB (fun e12 p12 I12 a12 n12 eq12 lt12 hp12 ha12 es12 hn12 hnn12 hNB12 hV12 hE12 hF12 => ?_) (fun k12 q12 I12 a12 eq12 hk12 hk312 hq12 ha12 hF12 => ?_))
    · refine Kq_v (k' := 0) (sl' := 0) rfl rfl ?_
      have hT12 := hF12.T hT
      refine V_aload_n 16 0 rfl _ rfl rfl dX11_readTwo_15 rfl ?_
      refine V_bipush 18 (44) rfl dX11_readTwo_16 rfl ?_
      refine V_callV (K' := 0) (S' := 0) 21 69 11 1 [.int 44] mkX11_sign lkX11_242 (by decide) rfl rfl (by decide) rfl (Nat.le_of_ble_eq_true rfl) (Nat.le_of_ble_eq_true rfl) (Nat.le_of_ble_eq_true rfl) (Nat.le_of_ble_eq_true rfl) rfl rfl dX11_readTwo_18 rfl (c_X11_sign (c := 44) hRM (TxM.ox (o := o + 1) hT12) (by decide) (by decide) ha12 (fun e => absurd rfl e) (fun _ z18 s18 => ?_) (fun _ e18 => ?_))
      · refine Kq_v (k' := 0) (sl' := 0) rfl rfl ?_
        have e18 : pSig t z 44 (sk t z a12) = .inr (sk t z (sk t z a12 + 1)) := sig_ok z18 s18 (by decide) (by decide)
        have lz18 := (pSig_ok e18).2.2.2
        refine V_aload_n 22 0 rfl _ rfl rfl dX11_readTwo_21 rfl ?_
        refine V_callV (K' := 0) (S' := 0) 25 69 11 0 [] mkX11_readSum lkX11_264 (by decide) rfl rfl (by decide) rfl (Nat.le_of_ble_eq_true rfl) (Nat.le_of_ble_eq_true rfl) (Nat.le_of_ble_eq_true rfl) (Nat.le_of_ble_eq_true rfl) rfl rfl dX11_readTwo_22 rfl (hU _ _ _ _ _ (sk t z a12 + 1) n12 _ (by omega) hRM hT12 h150 (Nat.succ_le_of_lt z18) (by omega) hNB12 (fun e22 p22 I22 a22 n22 eq22 lt22 hp22 ha22 es22 hn22 hnn22 hNB22 hV22 hE22 hF22 => ?_) (fun k22 q22 I22 a22 eq22 hk22 hk322 hq22 ha22 hF22 => ?_))
        · refine Kq_v (k' := 0) (sl' := 0) rfl rfl ?_
          have hT22 := hF22.T hT12
          refine V_aload_n 26 0 rfl _ rfl rfl dX11_readTwo_25 rfl ?_
          refine V_bipush 28 (93) rfl dX11_readTwo_26 rfl ?_
          refine V_callV (K' := 0) (S' := 0) 31 69 11 1 [.int 93] mkX11_sign lkX11_242 (by decide) rfl rfl (by decide) rfl (Nat.le_of_ble_eq_true rfl) (Nat.le_of_ble_eq_true rfl) (Nat.le_of_ble_eq_true rfl) (Nat.le_of_ble_eq_true rfl) rfl rfl dX11_readTwo_28 rfl (c_X11_sign (c := 93) hRM (TxM.ox (o := o + 1) hT22) (by decide) (by decide) ha22 (fun e => absurd rfl e) (fun _ z28 s28 => ?_) (fun _ e28 => ?_))
          · refine Kq_v (k' := 0) (sl' := 0) rfl rfl ?_
            have e28 : pSig t z 93 (sk t z a22) = .inr (sk t z (sk t z a22 + 1)) := sig_ok z28 s28 (by decide) (by decide)
            have lz28 := (pSig_ok e28).2.2.2
            refine V_aload_n 32 0 rfl _ rfl rfl dX11_readTwo_31 rfl ?_
            refine V_dup 33 rfl dX11_readTwo_32 rfl ?_
            refine V_getI 36 69 11 7 (nI (o + 1)) (show lx _ _ _ _ 69 7 = _ from by rw [lx_69 (by decide) (by decide) (by decide)]; exact ox_7) flX11_163 rfl rfl rfl (by decide) dX11_readTwo_33 rfl ?_
            refine V_iconst 37 (1) rfl dX11_readTwo_36 rfl ?_
            refine V_isub 38 dX11_readTwo_37 rfl ?_
            refine V_rw (nI_pred o) ?_
            refine V_putI 41 69 11 7 flX11_163 rfl rfl rfl (by decide) rfl dX11_readTwo_38 rfl ?_
            rw [lx_up (fun _ => by decide), ox_ox]
            refine V_aload_n 42 0 rfl _ rfl rfl dX11_readTwo_41 rfl ?_
            refine V_iload_n 43 2 rfl rfl dX11_readTwo_42 rfl ?_
            refine V_iconst 44 (0) rfl dX11_readTwo_43 rfl ?_
            have hj44 := em_o (n := n) (c := c) hNB22 (by omega) hc hc8 (hV12.ext (by omega) hE22 (Nat.le_refl _)) hV22 (by omega) (by omega)
            refine V_callV (K' := 0) (S' := 0) 47 69 11 2 [.int (nI c), .int 0] mkX11_emit lkX11_255 (by decide) rfl rfl (by decide) rfl (Nat.le_of_ble_eq_true rfl) (Nat.le_of_ble_eq_true rfl) (Nat.le_of_ble_eq_true rfl) (Nat.le_of_ble_eq_true rfl) rfl rfl dX11_readTwo_44 rfl (c_X11_emit hRM hNB22.1 (by omega) ?_)
            refine Kq_v (k' := 0) (sl' := 0) rfl rfl ?_
            refine V_ret_v rfl (Nat.le_of_ble_eq_true rfl) (fun h => absurd h (by decide)) (Nat.le_of_ble_eq_true rfl) (hk _ _ _ _ _ ((bd_ok e8).trans ((bd_ok eq12).trans ((bd_ok (show pSig t z 44 p12 = _ from by rw [← es12]; exact e18)).trans ((bd_ok eq22).trans ((bd_ok (show pSig t z 93 p22 = _ from by rw [← es22]; exact e28))))))) (by omega) (by omega) (Nat.succ_le_of_lt z28) rfl (by omega) (by omega) hj44.1 hj44.2 ((hE12.tr hE22 (by omega)).tr em_ex (by omega)) ((hF12.tr hF22).tr em_fr)) dX11_readTwo_47
          · refine Kq_v (k' := 0) (sl' := 0) rfl rfl ?_
            have nb28 : ¬ nI (sk t z a22) = -1 := nI_ne (by first | omega | exact Nat.lt_of_le_of_lt (sk_z (t := t) ha22).2.1 (by omega))
            refine V_aload_n 32 0 rfl _ rfl rfl dX11_readTwo_31 rfl ?_
            refine V_dup 33 rfl dX11_readTwo_32 rfl ?_
            refine V_getI 36 69 11 7 (nI (o + 1)) (show lx _ _ _ _ 69 7 = _ from by rw [lx_69 (by decide) (by decide) (by decide)]; exact ox_7) flX11_163 rfl rfl rfl (by decide) dX11_readTwo_33 rfl ?_
            refine V_iconst 37 (1) rfl dX11_readTwo_36 rfl ?_
            refine V_isub 38 dX11_readTwo_37 rfl ?_
            refine V_rw (nI_pred o) ?_
            refine V_putI 41 69 11 7 flX11_163 rfl rfl rfl (by decide) rfl dX11_readTwo_38 rfl ?_
            rw [lx_up (fun _ => by decide), ox_ox]
            refine V_aload_n 42 0 rfl _ rfl rfl dX11_readTwo_41 rfl ?_
            refine V_iload_n 43 2 rfl rfl dX11_readTwo_42 rfl ?_
            refine V_iconst 44 (0) rfl dX11_readTwo_43 rfl ?_
            refine V_callV (K' := 0) (S' := 0) 47 69 11 2 [.int (nI c), .int 0] mkX11_emit lkX11_255 (by decide) rfl rfl (by decide) rfl (Nat.le_of_ble_eq_true rfl) (Nat.le_of_ble_eq_true rfl) (Nat.le_of_ble_eq_true rfl) (Nat.le_of_ble_eq_true rfl) rfl rfl dX11_readTwo_44 rfl (c_X11_emitF nb28 ?_)
            refine Kq_v (k' := 0) (sl' := 0) rfl rfl ?_
            refine V_ret_v rfl (Nat.le_of_ble_eq_true rfl) (fun h => absurd h (by decide)) (Nat.le_of_ble_eq_true rfl) (hb 1 _ _ _ ((bd_ok e8).trans ((bd_ok eq12).trans ((bd_ok (show pSig t z 44 p12 = _ from by rw [← es12]; exact e18)).trans ((bd_ok eq22).trans ((bd_no (show pSig t z 93 p22 = .inl (1, sk t z a22) from by rw [← es22]; exact e28))))))) (by decide) (by decide) (by omega) (sk_z ha22).2.1 (hF12.tr hF22)) dX11_readTwo_47
        · refine Kq_v (k' := 0) (sl' := 0) rfl rfl ?_
          have hT22 := hF22.T hT12
          have nb22 : ¬ nI q22 = -1 := nI_ne (by omega)
          refine V_aload_n 26 0 rfl _ rfl rfl dX11_readTwo_25 rfl ?_
          refine V_bipush 28 (93) rfl dX11_readTwo_26 rfl ?_
          refine V_callV (K' := 0) (S' := 0) 31 69 11 1 [.int 93] mkX11_sign lkX11_242 (by decide) rfl rfl (by decide) rfl (Nat.le_of_ble_eq_true rfl) (Nat.le_of_ble_eq_true rfl) (Nat.le_of_ble_eq_true rfl) (Nat.le_of_ble_eq_true rfl) rfl rfl dX11_readTwo_28 rfl (c_X11_sign (c := 93) hRM (TxM.ox (o := o + 1) hT22) (by decide) (by decide) ha22 (fun _ => ?_) (fun e _ _ => absurd e nb22) (fun e _ => absurd e nb22))
          refine Kq_v (k' := 0) (sl' := 0) rfl rfl ?_
          refine V_aload_n 32 0 rfl _ rfl rfl dX11_readTwo_31 rfl ?_
          refine V_dup 33 rfl dX11_readTwo_32 rfl ?_
          refine V_getI 36 69 11 7 (nI (o + 1)) (show lx _ _ _ _ 69 7 = _ from by rw [lx_69 (by decide) (by decide) (by decide)]; exact ox_7) flX11_163 rfl rfl rfl (by decide) dX11_readTwo_33 rfl ?_
          refine V_iconst 37 (1) rfl dX11_readTwo_36 rfl ?_
          refine V_isub 38 dX11_readTwo_37 rfl ?_
          refine V_rw (nI_pred o) ?_
          refine V_putI 41 69 11 7 flX11_163 rfl rfl rfl (by decide) rfl dX11_readTwo_38 rfl ?_
          rw [lx_up (fun _ => by decide), ox_ox]
          refine V_aload_n 42 0 rfl _ rfl rfl dX11_readTwo_41 rfl ?_
          refine V_iload_n 43 2 rfl rfl dX11_readTwo_42 rfl ?_
          refine V_iconst 44 (0) rfl dX11_readTwo_43 rfl ?_
          refine V_callV (K' := 0) (S' := 0) 47 69 11 2 [.int (nI c), .int 0] mkX11_emit lkX11_255 (by decide) rfl rfl (by decide) rfl (Nat.le_of_ble_eq_true rfl) (Nat.le_of_ble_eq_true rfl) (Nat.le_of_ble_eq_true rfl) (Nat.le_of_ble_eq_true rfl) rfl rfl dX11_readTwo_44 rfl (c_X11_emitF nb22 ?_)
          refine Kq_v (k' := 0) (sl' := 0) rfl rfl ?_
          refine V_ret_v rfl (Nat.le_of_ble_eq_true rfl) (fun h => absurd h (by decide)) (Nat.le_of_ble_eq_true rfl) (hb _ _ _ _ ((bd_ok e8).trans ((bd_ok eq12).trans ((bd_ok (show pSig t z 44 p12 = _ from by rw [← es12]; exact e18)).trans ((bd_no eq22))))) hk22 hk322 hq22 ha22 (hF12.tr hF22)) dX11_readTwo_47
      · refine Kq_v (k' := 0) (sl' := 0) rfl rfl ?_
        have nb18 : ¬ nI (sk t z a12) = -1 := nI_ne (by first | omega | exact Nat.lt_of_le_of_lt (sk_z (t := t) ha12).2.1 (by omega))
        refine V_aload_n 22 0 rfl _ rfl rfl dX11_readTwo_21 rfl ?_
        refine V_callV (K' := 0) (S' := 0) 25 69 11 0 [] mkX11_readSum lkX11_264 (by decide) rfl rfl (by decide) rfl (Nat.le_of_ble_eq_true rfl) (Nat.le_of_ble_eq_true rfl) (Nat.le_of_ble_eq_true rfl) (Nat.le_of_ble_eq_true rfl) rfl rfl dX11_readTwo_22 rfl (c_X11_readSumF nb18 ?_)
        refine Kq_v (k' := 0) (sl' := 0) rfl rfl ?_
        refine V_aload_n 26 0 rfl _ rfl rfl dX11_readTwo_25 rfl ?_
        refine V_bipush 28 (93) rfl dX11_readTwo_26 rfl ?_
        refine V_callV (K' := 0) (S' := 0) 31 69 11 1 [.int 93] mkX11_sign lkX11_242 (by decide) rfl rfl (by decide) rfl (Nat.le_of_ble_eq_true rfl) (Nat.le_of_ble_eq_true rfl) (Nat.le_of_ble_eq_true rfl) (Nat.le_of_ble_eq_true rfl) rfl rfl dX11_readTwo_28 rfl (c_X11_sign (c := 93) hRM (TxM.ox (o := o + 1) hT12) (by decide) (by decide) (sk_z ha12).2.1 (fun _ => ?_) (fun e _ _ => absurd e nb18) (fun e _ => absurd e nb18))
        refine Kq_v (k' := 0) (sl' := 0) rfl rfl ?_
        refine V_aload_n 32 0 rfl _ rfl rfl dX11_readTwo_31 rfl ?_
        refine V_dup 33 rfl dX11_readTwo_32 rfl ?_
        refine V_getI 36 69 11 7 (nI (o + 1)) (show lx _ _ _ _ 69 7 = _ from by rw [lx_69 (by decide) (by decide) (by decide)]; exact ox_7) flX11_163 rfl rfl rfl (by decide) dX11_readTwo_33 rfl ?_
        refine V_iconst 37 (1) rfl dX11_readTwo_36 rfl ?_
        refine V_isub 38 dX11_readTwo_37 rfl ?_
        refine V_rw (nI_pred o) ?_
        refine V_putI 41 69 11 7 flX11_163 rfl rfl rfl (by decide) rfl dX11_readTwo_38 rfl ?_
        rw [lx_up (fun _ => by decide), ox_ox]
        refine V_aload_n 42 0 rfl _ rfl rfl dX11_readTwo_41 rfl ?_
        refine V_iload_n 43 2 rfl rfl dX11_readTwo_42 rfl ?_
        refine V_iconst 44 (0) rfl dX11_readTwo_43 rfl ?_
        refine V_callV (K' := 0) (S' := 0) 47 69 11 2 [.int (nI c), .int 0] mkX11_emit lkX11_255 (by decide) rfl rfl (by decide) rfl (Nat.le_of_ble_eq_true rfl) (Nat.le_of_ble_eq_true rfl) (Nat.le_of_ble_eq_true rfl) (Nat.le_of_ble_eq_true rfl) rfl rfl dX11_readTwo_44 rfl (c_X11_emitF nb18 ?_)
        refine Kq_v (k' := 0) (sl' := 0) rfl rfl ?_
        refine V_ret_v rfl (Nat.le_of_ble_eq_true rfl) (fun h => absurd h (by decide)) (Nat.le_of_ble_eq_true rfl) (hb 1 _ _ _ ((bd_ok e8).trans ((bd_ok eq12).trans ((bd_no (show pSig t z 44 p12 = .inl (1, sk t z a12) from by rw [← es12]; exact e18))))) (by decide) (by decide) (by omega) (sk_z ha12).2.1 hF12) dX11_readTwo_47
    · refine Kq_v (k' := 0) (sl' := 0) rfl rfl ?_
      have hT12 := hF12.T hT
      have nb12 : ¬ nI q12 = -1 := nI_ne (by omega)
      refine V_aload_n 16 0 rfl _ rfl rfl dX11_readTwo_15 rfl ?_
      refine V_bipush 18 (44) rfl dX11_readTwo_16 rfl ?_
      refine V_callV (K' := 0) (S' := 0) 21 69 11 1 [.int 44] mkX11_sign lkX11_242 (by decide) rfl rfl (by decide) rfl (Nat.le_of_ble_eq_true rfl) (Nat.le_of_ble_eq_true rfl) (Nat.le_of_ble_eq_true rfl) (Nat.le_of_ble_eq_true rfl) rfl rfl dX11_readTwo_18 rfl (c_X11_sign (c := 44) hRM (TxM.ox (o := o + 1) hT12) (by decide) (by decide) ha12 (fun _ => ?_) (fun e _ _ => absurd e nb12) (fun e _ => absurd e nb12))
      refine Kq_v (k' := 0) (sl' := 0) rfl rfl ?_
      refine V_aload_n 22 0 rfl _ rfl rfl dX11_readTwo_21 rfl ?_
      refine V_callV (K' := 0) (S' := 0) 25 69 11 0 [] mkX11_readSum lkX11_264 (by decide) rfl rfl (by decide) rfl (Nat.le_of_ble_eq_true rfl) (Nat.le_of_ble_eq_true rfl) (Nat.le_of_ble_eq_true rfl) (Nat.le_of_ble_eq_true rfl) rfl rfl dX11_readTwo_22 rfl (c_X11_readSumF nb12 ?_)
      refine Kq_v (k' := 0) (sl' := 0) rfl rfl ?_
      refine V_aload_n 26 0 rfl _ rfl rfl dX11_readTwo_25 rfl ?_
      refine V_bipush 28 (93) rfl dX11_readTwo_26 rfl ?_
      refine V_callV (K' := 0) (S' := 0) 31 69 11 1 [.int 93] mkX11_sign lkX11_242 (by decide) rfl rfl (by decide) rfl (Nat.le_of_ble_eq_true rfl) (Nat.le_of_ble_eq_true rfl) (Nat.le_of_ble_eq_true rfl) (Nat.le_of_ble_eq_true rfl) rfl rfl dX11_readTwo_28 rfl (c_X11_sign (c := 93) hRM (TxM.ox (o := o + 1) hT12) (by decide) (by decide) ha12 (fun _ => ?_) (fun e _ _ => absurd e nb12) (fun e _ => absurd e nb12))
      refine Kq_v (k' := 0) (sl' := 0) rfl rfl ?_
      refine V_aload_n 32 0 rfl _ rfl rfl dX11_readTwo_31 rfl ?_
      refine V_dup 33 rfl dX11_readTwo_32 rfl ?_
      refine V_getI 36 69 11 7 (nI (o + 1)) (show lx _ _ _ _ 69 7 = _ from by rw [lx_69 (by decide) (by decide) (by decide)]; exact ox_7) flX11_163 rfl rfl rfl (by decide) dX11_readTwo_33 rfl ?_
      refine V_iconst 37 (1) rfl dX11_readTwo_36 rfl ?_
      refine V_isub 38 dX11_readTwo_37 rfl ?_
      refine V_rw (nI_pred o) ?_
      refine V_putI 41 69 11 7 flX11_163 rfl rfl rfl (by decide) rfl dX11_readTwo_38 rfl ?_
      rw [lx_up (fun _ => by decide), ox_ox]
      refine V_aload_n 42 0 rfl _ rfl rfl dX11_readTwo_41 rfl ?_
      refine V_iload_n 43 2 rfl rfl dX11_readTwo_42 rfl ?_
      refine V_iconst 44 (0) rfl dX11_readTwo_43 rfl ?_
      refine V_callV (K' := 0) (S' := 0) 47 69 11 2 [.int (nI c), .int 0] mkX11_emit lkX11_255 (by decide) rfl rfl (by decide) rfl (Nat.le_of_ble_eq_true rfl) (Nat.le_of_ble_eq_true rfl) (Nat.le_of_ble_eq_true rfl) (Nat.le_of_ble_eq_true rfl) rfl rfl dX11_readTwo_44 rfl (c_X11_emitF nb12 ?_)
      refine Kq_v (k' := 0) (sl' := 0) rfl rfl ?_
      refine V_ret_v rfl (Nat.le_of_ble_eq_true rfl) (fun h => absurd h (by decide)) (Nat.le_of_ble_eq_true rfl) (hb _ _ _ _ ((bd_ok e8).trans ((bd_no eq12))) hk12 hk312 hq12 ha12 hF12) dX11_readTwo_47
  · refine Kq_v (k' := 0) (sl' := 0) rfl rfl ?_
    have nb8 : ¬ nI (sk t z (enF t z p)) = -1 := nI_ne (by first | omega | exact Nat.lt_of_le_of_lt (sk_z (t := t) ha).2.1 (by omega))
    refine V_aload_n 12 0 rfl _ rfl rfl dX11_readTwo_11 rfl ?_
    refine V_callV (K' := 0) (S' := 0) 15 69 11 0 [] mkX11_readSum lkX11_264 (by decide) rfl rfl (by decide) rfl (Nat.le_of_ble_eq_true rfl) (Nat.le_of_ble_eq_true rfl) (Nat.le_of_ble_eq_true rfl) (Nat.le_of_ble_eq_true rfl) rfl rfl dX11_readTwo_12 rfl (c_X11_readSumF nb8 ?_)
    refine Kq_v (k' := 0) (sl' := 0) rfl rfl ?_
    refine V_aload_n 16 0 rfl _ rfl rfl dX11_readTwo_15 rfl ?_
    refine V_bipush 18 (44) rfl dX11_readTwo_16 rfl ?_
    refine V_callV (K' := 0) (S' := 0) 21 69 11 1 [.int 44] mkX11_sign lkX11_242 (by decide) rfl rfl (by decide) rfl (Nat.le_of_ble_eq_true rfl) (Nat.le_of_ble_eq_true rfl) (Nat.le_of_ble_eq_true rfl) (Nat.le_of_ble_eq_true rfl) rfl rfl dX11_readTwo_18 rfl (c_X11_sign (c := 44) hRM (TxM.ox (o := o + 1) hT) (by decide) (by decide) (sk_z ha).2.1 (fun _ => ?_) (fun e _ _ => absurd e nb8) (fun e _ => absurd e nb8))
    refine Kq_v (k' := 0) (sl' := 0) rfl rfl ?_
    refine V_aload_n 22 0 rfl _ rfl rfl dX11_readTwo_21 rfl ?_
    refine V_callV (K' := 0) (S' := 0) 25 69 11 0 [] mkX11_readSum lkX11_264 (by decide) rfl rfl (by decide) rfl (Nat.le_of_ble_eq_true rfl) (Nat.le_of_ble_eq_true rfl) (Nat.le_of_ble_eq_true rfl) (Nat.le_of_ble_eq_true rfl) rfl rfl dX11_readTwo_22 rfl (c_X11_readSumF nb8 ?_)
    refine Kq_v (k' := 0) (sl' := 0) rfl rfl ?_
    refine V_aload_n 26 0 rfl _ rfl rfl dX11_readTwo_25 rfl ?_
    refine V_bipush 28 (93) rfl dX11_readTwo_26 rfl ?_
    refine V_callV (K' := 0) (S' := 0) 31 69 11 1 [.int 93] mkX11_sign lkX11_242 (by decide) rfl rfl (by decide) rfl (Nat.le_of_ble_eq_true rfl) (Nat.le_of_ble_eq_true rfl) (Nat.le_of_ble_eq_true rfl) (Nat.le_of_ble_eq_true rfl) rfl rfl dX11_readTwo_28 rfl (c_X11_sign (c := 93) hRM (TxM.ox (o := o + 1) hT) (by decide) (by decide) (sk_z ha).2.1 (fun _ => ?_) (fun e _ _ => absurd e nb8) (fun e _ => absurd e nb8))
    refine Kq_v (k' := 0) (sl' := 0) rfl rfl ?_
    refine V_aload_n 32 0 rfl _ rfl rfl dX11_readTwo_31 rfl ?_
    refine V_dup 33 rfl dX11_readTwo_32 rfl ?_
    refine V_getI 36 69 11 7 (nI (o + 1)) (show lx _ _ _ _ 69 7 = _ from by rw [lx_69 (by decide) (by decide) (by decide)]; exact ox_7) flX11_163 rfl rfl rfl (by decide) dX11_readTwo_33 rfl ?_
    refine V_iconst 37 (1) rfl dX11_readTwo_36 rfl ?_
    refine V_isub 38 dX11_readTwo_37 rfl ?_
    refine V_rw (nI_pred o) ?_
    refine V_putI 41 69 11 7 flX11_163 rfl rfl rfl (by decide) rfl dX11_readTwo_38 rfl ?_
    rw [lx_up (fun _ => by decide), ox_ox]
    refine V_aload_n 42 0 rfl _ rfl rfl dX11_readTwo_41 rfl ?_
    refine V_iload_n 43 2 rfl rfl dX11_readTwo_42 rfl ?_
    refine V_iconst 44 (0) rfl dX11_readTwo_43 rfl ?_
    refine V_callV (K' := 0) (S' := 0) 47 69 11 2 [.int (nI c), .int 0] mkX11_emit lkX11_255 (by decide) rfl rfl (by decide) rfl (Nat.le_of_ble_eq_true rfl) (Nat.le_of_ble_eq_true rfl) (Nat.le_of_ble_eq_true rfl) (Nat.le_of_ble_eq_true rfl) rfl rfl dX11_readTwo_44 rfl (c_X11_emitF nb8 ?_)
    refine Kq_v (k' := 0) (sl' := 0) rfl rfl ?_
    refine V_ret_v rfl (Nat.le_of_ble_eq_true rfl) (fun h => absurd h (by decide)) (Nat.le_of_ble_eq_true rfl) (hb 1 _ _ _ (bd_no e8) (by decide) (by decide) (by omega) (sk_z ha).2.1 FrN.rf) dX11_readTwo_47
