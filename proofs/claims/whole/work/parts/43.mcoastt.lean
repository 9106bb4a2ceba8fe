/-! ===== a COAST's text, as the reference reads it ===== -/
def CoastN (I : FI) (K : CO) : Prop := I 69 18 = nI (cH K) ∧ I 69 19 = nI (cG K) ∧ I 69 20 = nI (cM K) ∧ (∀ h, h < cH K → I 72 (2 * h) = cHat K (2 * h) ∧ I 72 (2 * h + 1) = cHat K (2 * h + 1)) ∧ (∀ g, g < cG K → I 73 (2 * g) = cGr K (2 * g) ∧ I 73 (2 * g + 1) = cGr K (2 * g + 1)) ∧ (∀ m, m < cM K → I 74 m = cBt K m) ∧ (∀ m, m < 6 → I 75 m = oI (cHr K m))
def FrY (I I' : FI) : Prop := (∀ a, a ≠ 69 → (a < 72 ∨ 75 < a) → I' a = I a) ∧ ∀ j, j ≠ 18 → j ≠ 19 → j ≠ 20 → I' 69 j = I 69 j
theorem FrY.rf {I : FI} : FrY I I := ⟨fun _ _ _ => rfl, fun _ _ _ _ => rfl⟩
theorem FrY.tr {I I1 I2 : FI} (h : FrY I I1) (h2 : FrY I1 I2) : FrY I I2 := ⟨fun a q1 q2 => (h2.1 a q1 q2).trans (h.1 a q1 q2), fun j q1 q2 q3 => (h2.2 j q1 q2 q3).trans (h.2 j q1 q2 q3)⟩
theorem FrY.T {I I' : FI} {t : Nat → Nat} {z : Nat} (h : FrY I I') (hT : TxM I t z) : TxM I' t z := hT.fr (h.2 3 (by decide) (by decide) (by decide)) (h.1 71 (by decide) (by decide))
theorem FrY.u {I I' : FI} {a j : Nat} {v : Int32} (h : FrY I I') (ha : (72 ≤ a ∧ a ≤ 75) ∨ (a = 69 ∧ 18 ≤ j ∧ j ≤ 20)) : FrY I (up2 I' a j v) := by
  refine ⟨fun b q1 q2 => ?_, fun b q1 q2 q3 => ?_⟩
  · rw [up2_n _ _ _ (by omega)]; exact h.1 b q1 q2
  · by_cases c : 69 = a
    · subst c; rw [up2_s, upd_n (by omega)]; exact h.2 b q1 q2 q3
    · rw [up2_n _ _ _ c]; exact h.2 b q1 q2 q3
theorem CoastN_hat {I : FI} {K : CO} {a s : Nat} (h : CoastN I K) : CoastN (up2 (up2 (up2 I 72 (2 * cH K) (nI a)) 72 (2 * cH K + 1) (nI s)) 69 18 (nI (cH K + 1))) (kHat K a s) := by
  obtain ⟨h1, h2, h3, h4, h5, h6, h7⟩ := h
  have e0 : ∀ j, j ≠ 69 → j ≠ 72 → up2 (up2 (up2 I 72 (2 * cH K) (nI a)) 72 (2 * cH K + 1) (nI s)) 69 18 (nI (cH K + 1)) j = I j := fun j q1 q2 => by rw [up2_n _ _ _ q1, up2_n _ _ _ q2, up2_n _ _ _ q2]
  have ec : ∀ j, j ≠ 18 → up2 (up2 (up2 I 72 (2 * cH K) (nI a)) 72 (2 * cH K + 1) (nI s)) 69 18 (nI (cH K + 1)) 69 j = I 69 j := fun j q => by rw [up2_s, upd_n q, up2_n _ _ _ (by decide), up2_n _ _ _ (by decide)]
  have e2 : up2 (up2 (up2 I 72 (2 * cH K) (nI a)) 72 (2 * cH K + 1) (nI s)) 69 18 (nI (cH K + 1)) 72 = upd (upd (I 72) (2 * cH K) (nI a)) (2 * cH K + 1) (nI s) := by rw [up2_n _ _ _ (by decide), up2_s, up2_s]
  refine ⟨by rw [up2_s]; exact upd_s, by rw [ec 19 (by decide)]; exact h2, by rw [ec 20 (by decide)]; exact h3, fun h hh => ?_, fun g hg => by rw [e0 73 (by decide) (by decide)]; exact h5 g hg, fun m hm => by rw [e0 74 (by decide) (by decide)]; exact h6 m hm, fun m hm => by rw [e0 75 (by decide) (by decide)]; exact h7 m hm⟩
  rw [e2]
  show upd (upd (I 72) (2 * cH K) (nI a)) (2 * cH K + 1) (nI s) (2 * h) = upd (upd (cHat K) (2 * cH K) (nI a)) (2 * cH K + 1) (nI s) (2 * h) ∧ upd (upd (I 72) (2 * cH K) (nI a)) (2 * cH K + 1) (nI s) (2 * h + 1) = upd (upd (cHat K) (2 * cH K) (nI a)) (2 * cH K + 1) (nI s) (2 * h + 1)
  have hh : h < cH K + 1 := hh
  by_cases q : h = cH K
  · subst q
    exact ⟨by rw [upd_n (by omega), upd_s, upd_n (by omega), upd_s], by rw [upd_s, upd_s]⟩
  · obtain ⟨a1, a2⟩ := h4 h (by omega)
    exact ⟨by rw [upd_n (by omega), upd_n (by omega), upd_n (by omega), upd_n (by omega)]; exact a1, by rw [upd_n (by omega), upd_n (by omega), upd_n (by omega), upd_n (by omega)]; exact a2⟩
theorem CoastN_gr {I : FI} {K : CO} {a s : Nat} (h : CoastN I K) : CoastN (up2 (up2 (up2 I 73 (2 * cG K) (nI a)) 73 (2 * cG K + 1) (nI s)) 69 19 (nI (cG K + 1))) (kGr K a s) := by
  obtain ⟨h1, h2, h3, h4, h5, h6, h7⟩ := h
  have e0 : ∀ j, j ≠ 69 → j ≠ 73 → up2 (up2 (up2 I 73 (2 * cG K) (nI a)) 73 (2 * cG K + 1) (nI s)) 69 19 (nI (cG K + 1)) j = I j := fun j q1 q2 => by rw [up2_n _ _ _ q1, up2_n _ _ _ q2, up2_n _ _ _ q2]
  have ec : ∀ j, j ≠ 19 → up2 (up2 (up2 I 73 (2 * cG K) (nI a)) 73 (2 * cG K + 1) (nI s)) 69 19 (nI (cG K + 1)) 69 j = I 69 j := fun j q => by rw [up2_s, upd_n q, up2_n _ _ _ (by decide), up2_n _ _ _ (by decide)]
  have e2 : up2 (up2 (up2 I 73 (2 * cG K) (nI a)) 73 (2 * cG K + 1) (nI s)) 69 19 (nI (cG K + 1)) 73 = upd (upd (I 73) (2 * cG K) (nI a)) (2 * cG K + 1) (nI s) := by rw [up2_n _ _ _ (by decide), up2_s, up2_s]
  refine ⟨by rw [ec 18 (by decide)]; exact h1, by rw [up2_s]; exact upd_s, by rw [ec 20 (by decide)]; exact h3, fun g hg => by rw [e0 72 (by decide) (by decide)]; exact h4 g hg, fun h hh => ?_, fun m hm => by rw [e0 74 (by decide) (by decide)]; exact h6 m hm, fun m hm => by rw [e0 75 (by decide) (by decide)]; exact h7 m hm⟩
  rw [e2]
  show upd (upd (I 73) (2 * cG K) (nI a)) (2 * cG K + 1) (nI s) (2 * h) = upd (upd (cGr K) (2 * cG K) (nI a)) (2 * cG K + 1) (nI s) (2 * h) ∧ upd (upd (I 73) (2 * cG K) (nI a)) (2 * cG K + 1) (nI s) (2 * h + 1) = upd (upd (cGr K) (2 * cG K) (nI a)) (2 * cG K + 1) (nI s) (2 * h + 1)
  have hh : h < cG K + 1 := hh
  by_cases q : h = cG K
  · subst q
    exact ⟨by rw [upd_n (by omega), upd_s, upd_n (by omega), upd_s], by rw [upd_s, upd_s]⟩
  · obtain ⟨a1, a2⟩ := h5 h (by omega)
    exact ⟨by rw [upd_n (by omega), upd_n (by omega), upd_n (by omega), upd_n (by omega)]; exact a1, by rw [upd_n (by omega), upd_n (by omega), upd_n (by omega), upd_n (by omega)]; exact a2⟩
theorem CoastN_man {I : FI} {K : CO} {b : Nat} (h : CoastN I K) (hn : cHr K (cM K) = none) : CoastN (up2 (up2 I 74 (cM K) (nI b)) 69 20 (nI (cM K + 1))) (kMan K b) := by
  obtain ⟨h1, h2, h3, h4, h5, h6, h7⟩ := h
  have e0 : ∀ j, j ≠ 69 → j ≠ 74 → up2 (up2 I 74 (cM K) (nI b)) 69 20 (nI (cM K + 1)) j = I j := fun j q1 q2 => by rw [up2_n _ _ _ q1, up2_n _ _ _ q2]
  have ec : ∀ j, j ≠ 20 → up2 (up2 I 74 (cM K) (nI b)) 69 20 (nI (cM K + 1)) 69 j = I 69 j := fun j q => by rw [up2_s, upd_n q, up2_n _ _ _ (by decide)]
  refine ⟨by rw [ec 18 (by decide)]; exact h1, by rw [ec 19 (by decide)]; exact h2, by rw [up2_s]; exact upd_s, fun g hg => by rw [e0 72 (by decide) (by decide)]; exact h4 g hg, fun g hg => by rw [e0 73 (by decide) (by decide)]; exact h5 g hg, fun m hm => ?_, fun m hm => ?_⟩
  · rw [up2_n _ _ _ (by decide), up2_s]
    show upd (I 74) (cM K) (nI b) m = upd (cBt K) (cM K) (nI b) m
    have hm : m < cM K + 1 := hm
    by_cases q : m = cM K
    · subst q; rw [upd_s, upd_s]
    · rw [upd_n q, upd_n q]; exact h6 m (by omega)
  · rw [e0 75 (by decide) (by decide)]
    show I 75 m = oI (if m = cM K then none else cHr K m)
    by_cases q : m = cM K
    · subst q; rw [if_pos rfl, ← hn]; exact h7 _ hm
    · rw [if_neg q]; exact h7 m hm
theorem CoastN_heir {I : FI} {K : CO} {m k : Nat} (h : CoastN I K) : CoastN (up2 I 75 m (nI k)) (kHeir K m k) := by
  obtain ⟨h1, h2, h3, h4, h5, h6, h7⟩ := h
  have e0 : ∀ j, j ≠ 75 → up2 I 75 m (nI k) j = I j := fun j q1 => up2_n _ _ _ q1
  refine ⟨by rw [e0 69 (by decide)]; exact h1, by rw [e0 69 (by decide)]; exact h2, by rw [e0 69 (by decide)]; exact h3, fun g hg => by rw [e0 72 (by decide)]; exact h4 g hg, fun g hg => by rw [e0 73 (by decide)]; exact h5 g hg, fun m hm => by rw [e0 74 (by decide)]; exact h6 m hm, fun j hj => ?_⟩
  rw [up2_s]
  show upd (I 75) m (nI k) j = oI (if j = m then some k else cHr K j)
  by_cases q : j = m
  · subst q; rw [upd_s, if_pos rfl]; rfl
  · rw [upd_n q, if_neg q]; exact h7 j hj
def isRw (t : Nat → Nat) (z p : Nat) : Prop := wcF t z p = ocF 1 ∨ wcF t z p = ocF 2 ∨ wcF t z p = ocF 3 ∨ wcF t z p = ocF 4
theorem oc_n : ocF 24 = ocF 1 ∧ ocF 25 = ocF 2 ∧ ocF 26 = ocF 3 ∧ ocF 27 = ocF 4 := by decide +kernel
theorem oc_d : ocF 1 ≠ ocF 2 ∧ ocF 1 ≠ ocF 3 ∧ ocF 1 ≠ ocF 4 ∧ ocF 2 ≠ ocF 3 ∧ ocF 2 ≠ ocF 4 ∧ ocF 3 ≠ ocF 4 := by decide +kernel
theorem wN {t : Nat → Nat} {z p i j : Nat} (hp : p ≤ z) (hi : isWd i) (e : ocF i = ocF j) : nI (wcF t z p) = nI (ocF i) ↔ wcF t z p = ocF j := by
  have a := wcF_lt (t := t) hp
  have b := ocF_lt hi
  rw [nI_eq (by omega) (by omega), e]
theorem sig_ok {t : Nat → Nat} {z p c : Nat} (h : p < z) (h2 : t p = c) (hd : ¬ dg c = true) (hl : ¬ le_ c = true) : pSig t z c p = .inr (sk t z (p + 1)) := by
  unfold pSig nx enF
  rw [if_pos ⟨h, h2⟩, if_neg (by omega), h2, if_neg hd, if_neg hl]
theorem en_word {t : Nat → Nat} {z p : Nat} (hp : p ≤ z) (h : 0 < sc le_ t z p - p) : enF t z p = sc le_ t z p ∧ p < z := by
  have hz : p < z := by
    by_cases c : p < z
    · exact c
    · rw [sc_st (fun q => c q.1)] at h; omega
  have hl : le_ (t p) = true := by
    by_cases c : le_ (t p) = true
    · exact c
    · rw [sc_st (fun q => c q.2)] at h; omega
  have hd : ¬ dg (t p) = true := fun q => by have a := dg_iff.mp q; have b := le_iff.mp hl; omega
  refine ⟨?_, hz⟩
  unfold enF
  rw [if_neg (by omega), if_neg hd, if_pos hl]
theorem en_wd {t : Nat → Nat} {z p i : Nat} (hp : p ≤ z) (hi : isWd i) (h : wcF t z p = ocF i) : sc le_ t z p = enF t z p ∧ p < z := by
  have e := (wc_iff hp hi).mp h
  obtain ⟨a, b⟩ := en_word (t := t) hp (by rw [e.1]; exact hi.2.1)
  exact ⟨a.symm, b⟩
set_option maxHeartbeats 8000000 in
theorem c_X11_readRow {G : Gx} {d : Nat} {I : FI} {R : FR} {J : FJ} {Q : Po} (hRM : ∀ k, R 69 k = refM k) {t : Nat → Nat} {z : Nat} (hT : TxM I t z) {K : CO} (hN : CoastN I K) (hWp : WKp K) {p : Nat} {k : Int32} (hp : p ≤ z) (hr : isRw t z p) (hf1 : wcF t z p = ocF 1 → cH K < 8) (hf2 : wcF t z p = ocF 2 → cG K < 6) (hf3 : wcF t z p = ocF 3 → cM K < 6) (hk : ∀ K' p' I' a', pCl t z 0 K p = .inr (K', p') → CoastN I' K' → FrY I I' → a' ≤ z → sk t z a' = p' → Q (.inl none) 103 (lx I' a' (-1) k) R J) (hb : ∀ kd q I' a', pCl t z 0 K p = .inl (kd, q) → 0 < kd → kd ≤ 3 → q ≤ z → FrY I I' → a' ≤ z → Q (.inl none) 103 (lx I' a' (nI q) (nI kd)) R J) : Cc G mX11_readRow (d + 1 + 1 + 1 + 1 + 1) 0 0 [rf G 69, .int (nI (wcF t z p))] 103 (lx I (enF t z p) (-1) k) R J Q := by
  have h6 := hT.2.1
  have h8 := hWp.1.1
  have hg6 := hWp.1.2.1
  have hm6 := hWp.1.2.2.1
  have ha := (enF_z (t := t) hp).2.1
  obtain ⟨o1, o2, o3, o4⟩ := oc_n
  obtain ⟨d1, d2, d3, d4, d5, d6⟩ := oc_d
  show V _ _ _ _ _ _ _ _ [(0, rf G 69), (1, .int (nI (wcF t z p)))] [] _ _ _ _ _
  refine V_iload_n 1 1 rfl rfl dX11_readRow_0 rfl ?_
  refine V_ldcS 3 24 rfl rfl dX11_readRow_1 rfl ?_
  refine V_callS (K' := 0) (S' := 0) 6 1 [sr G 24] mkX11_of lkX11_204 rfl (Nat.le_of_ble_eq_true rfl) (Nat.le_of_ble_eq_true rfl) (Nat.le_of_ble_eq_true rfl) (Nat.le_of_ble_eq_true rfl) rfl rfl dX11_readRow_3 rfl (c_X11_of (wdo 24 (by decide) (by decide) (by decide)) ?_)
  refine Kq_i (k' := 0) (sl' := 0) rfl rfl ?_
  refine V_icmp_ne 60 9 rfl dX11_readRow_6 rfl (fun c6 => ?_) (fun c6 => ?_)
  · refine V_iload_n 61 1 rfl rfl dX11_readRow_60 rfl ?_
    refine V_ldcS 63 25 rfl rfl dX11_readRow_61 rfl ?_
    refine V_callS (K' := 0) (S' := 0) 66 1 [sr G 25] mkX11_of lkX11_204 rfl (Nat.le_of_ble_eq_true rfl) (Nat.le_of_ble_eq_true rfl) (Nat.le_of_ble_eq_true rfl) (Nat.le_of_ble_eq_true rfl) rfl rfl dX11_readRow_63 rfl (c_X11_of (wdo 25 (by decide) (by decide) (by decide)) ?_)
    refine Kq_i (k' := 0) (sl' := 0) rfl rfl ?_
    refine V_icmp_ne 121 69 rfl dX11_readRow_66 rfl (fun c66 => ?_) (fun c66 => ?_)
    · refine V_iload_n 122 1 rfl rfl dX11_readRow_121 rfl ?_
      refine V_ldcS 124 26 rfl rfl dX11_readRow_122 rfl ?_
      refine V_callS (K' := 0) (S' := 0) 127 1 [sr G 26] mkX11_of lkX11_204 rfl (Nat.le_of_ble_eq_true rfl) (Nat.le_of_ble_eq_true rfl) (Nat.le_of_ble_eq_true rfl) (Nat.le_of_ble_eq_true rfl) rfl rfl dX11_readRow_124 rfl (c_X11_of (wdo 26 (by decide) (by decide) (by decide)) ?_)
      refine Kq_i (k' := 0) (sl' := 0) rfl rfl ?_
      refine V_icmp_ne 159 130 rfl dX11_readRow_127 rfl (fun c127 => ?_) (fun c127 => ?_)
      · have q1 : ¬ wcF t z p = ocF 1 := fun q => c6 ((wN hp (wdo 24 (by decide) (by decide) (by decide)) o1).mpr q)
        have q2 : ¬ wcF t z p = ocF 2 := fun q => c66 ((wN hp (wdo 25 (by decide) (by decide) (by decide)) o2).mpr q)
        have q3 : ¬ wcF t z p = ocF 3 := fun q => c127 ((wN hp (wdo 26 (by decide) (by decide) (by decide)) o3).mpr q)
        have q4 : wcF t z p = ocF 4 := hr.elim (fun q => absurd q q1) (fun q => q.elim (fun q => absurd q q2) (fun q => q.elim (fun q => absurd q q3) id))
        refine V_aload_n 160 0 rfl _ rfl rfl dX11_readRow_159 rfl ?_
        refine V_iconst 161 (0) rfl dX11_readRow_160 rfl ?_
        refine V_aload_n 162 0 rfl _ rfl rfl dX11_readRow_161 rfl ?_
        refine V_getI 165 69 11 20 (nI (cM K)) (show lx _ _ _ _ 69 20 = _ from by rw [lx_69 (by decide) (by decide) (by decide)]; exact hN.2.2.1) flX11_172 rfl rfl rfl (by decide) dX11_readRow_162 rfl ?_
        refine V_iconst 166 (1) rfl dX11_readRow_165 rfl ?_
        refine V_isub 167 dX11_readRow_166 rfl ?_
        refine V_callV (K' := 0) (S' := 0) 170 69 11 2 [.int 0, .int ((nI (cM K)) - 1)] mkX11_readNumber lkX11_212 (by decide) rfl rfl (by decide) rfl (Nat.le_of_ble_eq_true rfl) (Nat.le_of_ble_eq_true rfl) (Nat.le_of_ble_eq_true rfl) (Nat.le_of_ble_eq_true rfl) rfl rfl dX11_readRow_167 rfl (c_X11_readNumber (lo := 0) (cnt := cM K) hRM hT (by decide) (by omega) (hh_m1 (cM K) (by omega)) ha (fun e => absurd rfl e) (fun v167 _ e167 => ?_) (fun k167 a167 ha167 _ e167 => ?_))
        · refine Kq_i (k' := 0) (sl' := 0) rfl rfl ?_
          obtain ⟨-, -, lo167, hi167, -, -, lt167, hz167⟩ := pNum_ok e167
          refine V_istore_n 171 [(2, .int (nI v167)), (0, rf G 69), (1, .int (nI (wcF t z p)))] (by decide) rfl rfl dX11_readRow_170 rfl ?_
          refine V_aload_n 172 1 rfl _ rfl rfl dX11_readRow_171 rfl ?_
          refine V_iconst 173 (0) rfl dX11_readRow_172 rfl ?_
          refine V_aload_n 174 1 rfl _ rfl rfl dX11_readRow_173 rfl ?_
          refine V_getI 177 69 11 20 (nI (cM K)) (show lx _ _ _ _ 69 20 = _ from by rw [lx_69 (by decide) (by decide) (by decide)]; exact hN.2.2.1) flX11_172 rfl rfl rfl (by decide) dX11_readRow_174 rfl ?_
          refine V_iconst 178 (1) rfl dX11_readRow_177 rfl ?_
          refine V_isub 179 dX11_readRow_178 rfl ?_
          refine V_callV (K' := 0) (S' := 0) 182 69 11 2 [.int 0, .int ((nI (cM K)) - 1)] mkX11_readNumber lkX11_212 (by decide) rfl rfl (by decide) rfl (Nat.le_of_ble_eq_true rfl) (Nat.le_of_ble_eq_true rfl) (Nat.le_of_ble_eq_true rfl) (Nat.le_of_ble_eq_true rfl) rfl rfl dX11_readRow_179 rfl (c_X11_readNumber (lo := 0) (cnt := cM K) hRM hT (by decide) (by omega) (hh_m1 (cM K) (by omega)) (enF_z (sk_z ha).2.1).2.1 (fun e => absurd rfl e) (fun v179 _ e179 => ?_) (fun k179 a179 ha179 _ e179 => ?_))
          · refine Kq_i (k' := 0) (sl' := 0) rfl rfl ?_
            obtain ⟨-, -, lo179, hi179, -, -, lt179, hz179⟩ := pNum_ok e179
            refine V_istore_n 183 [(3, .int (nI v179)), (2, .int (nI v167)), (0, rf G 69), (1, .int (nI (wcF t z p)))] (by decide) rfl rfl dX11_readRow_182 rfl ?_
            refine V_aload_n 184 2 rfl _ rfl rfl dX11_readRow_183 rfl ?_
            refine V_callV (K' := 0) (S' := 0) 187 69 11 0 [] mkX11_fine lkX11_152 (by decide) rfl rfl (by decide) rfl (Nat.le_of_ble_eq_true rfl) (Nat.le_of_ble_eq_true rfl) (Nat.le_of_ble_eq_true rfl) (Nat.le_of_ble_eq_true rfl) rfl rfl dX11_readRow_184 rfl (c_X11_fine (fun _ => ?_) (fun e => absurd rfl e))
            refine Kq_i (k' := 0) (sl' := 0) rfl rfl ?_
            refine V_if_eq 197 190 rfl dX11_readRow_187 rfl (fun c187 => absurd c187 (by decide)) (fun c187 => ?_)
            refine V_aload_n 191 2 rfl _ rfl rfl dX11_readRow_190 rfl ?_
            refine V_getR 194 69 11 13 75 (hRM 13) flX11_32 rfl rfl rfl (by decide) dX11_readRow_191 rfl ?_
            refine V_iload_n 195 1 rfl rfl dX11_readRow_194 rfl ?_
            refine V_iload_n 196 0 rfl rfl dX11_readRow_195 rfl ?_
            refine V_iastN 197 75 6 v167 (by omega) (by decide) rfl (by decide) dX11_readRow_196 rfl ?_
            rw [lx_up (fun h => absurd h (by decide))]
            refine V_ret_v rfl (Nat.le_of_ble_eq_true rfl) (fun h => absurd h (by decide)) (Nat.le_of_ble_eq_true rfl) (hk _ _ _ _ ((if_neg q1).trans ((if_neg q2).trans ((if_neg q3).trans ((if_pos q4).trans ((if_neg (by decide)).trans ((bd_ok e167).trans (bd_ok e179))))))) (CoastN_heir hN) (FrY.u FrY.rf (by omega)) (enF_z (sk_z (enF_z (sk_z ha).2.1).2.1).2.1).2.1 rfl) dX11_readRow_197
          · refine Kq_i (k' := 0) (sl' := 0) rfl rfl ?_
            have kk179 := pNum_k e179
            have nb179 : ¬ nI (sk t z (enF t z (sk t z (enF t z p)))) = -1 := nI_ne (by first | omega | exact Nat.lt_of_le_of_lt (sk_z (t := t) (enF_z (sk_z ha).2.1).2.1).2.1 (by omega))
            refine V_istore_n 183 [(3, .int 0), (2, .int (nI v167)), (0, rf G 69), (1, .int (nI (wcF t z p)))] (by decide) rfl rfl dX11_readRow_182 rfl ?_
            refine V_aload_n 184 2 rfl _ rfl rfl dX11_readRow_183 rfl ?_
            refine V_callV (K' := 0) (S' := 0) 187 69 11 0 [] mkX11_fine lkX11_152 (by decide) rfl rfl (by decide) rfl (Nat.le_of_ble_eq_true rfl) (Nat.le_of_ble_eq_true rfl) (Nat.le_of_ble_eq_true rfl) (Nat.le_of_ble_eq_true rfl) rfl rfl dX11_readRow_184 rfl (c_X11_fine (fun e => absurd e nb179) (fun _ => ?_))
            refine Kq_i (k' := 0) (sl' := 0) rfl rfl ?_
            refine V_if_eq 197 190 rfl dX11_readRow_187 rfl (fun c187 => ?_) (fun c187 => absurd c187 (by decide))
            refine V_ret_v rfl (Nat.le_of_ble_eq_true rfl) (fun h => absurd h (by decide)) (Nat.le_of_ble_eq_true rfl) (hb _ _ _ _ ((if_neg q1).trans ((if_neg q2).trans ((if_neg q3).trans ((if_pos q4).trans ((if_neg (by decide)).trans ((bd_ok e167).trans (bd_no e179))))))) kk179.1 kk179.2 (by first | exact (sk_z ha).2.1 | exact hz167) FrY.rf ha179) dX11_readRow_197
        · refine Kq_i (k' := 0) (sl' := 0) rfl rfl ?_
          have kk167 := pNum_k e167
          have nb167 : ¬ nI (sk t z (enF t z p)) = -1 := nI_ne (by first | omega | exact Nat.lt_of_le_of_lt (sk_z (t := t) ha).2.1 (by omega))
          refine V_istore_n 171 [(2, .int 0), (0, rf G 69), (1, .int (nI (wcF t z p)))] (by decide) rfl rfl dX11_readRow_170 rfl ?_
          refine V_aload_n 172 1 rfl _ rfl rfl dX11_readRow_171 rfl ?_
          refine V_iconst 173 (0) rfl dX11_readRow_172 rfl ?_
          refine V_aload_n 174 1 rfl _ rfl rfl dX11_readRow_173 rfl ?_
          refine V_getI 177 69 11 20 (nI (cM K)) (show lx _ _ _ _ 69 20 = _ from by rw [lx_69 (by decide) (by decide) (by decide)]; exact hN.2.2.1) flX11_172 rfl rfl rfl (by decide) dX11_readRow_174 rfl ?_
          refine V_iconst 178 (1) rfl dX11_readRow_177 rfl ?_
          refine V_isub 179 dX11_readRow_178 rfl ?_
          refine V_callV (K' := 0) (S' := 0) 182 69 11 2 [.int 0, .int ((nI (cM K)) - 1)] mkX11_readNumber lkX11_212 (by decide) rfl rfl (by decide) rfl (Nat.le_of_ble_eq_true rfl) (Nat.le_of_ble_eq_true rfl) (Nat.le_of_ble_eq_true rfl) (Nat.le_of_ble_eq_true rfl) rfl rfl dX11_readRow_179 rfl (c_X11_readNumber (lo := 0) (cnt := cM K) hRM hT (by decide) (by omega) (hh_m1 (cM K) (by omega)) ha167 (fun _ => ?_) (fun _ e _ => absurd e nb167) (fun _ _ _ e _ => absurd e nb167))
          refine Kq_i (k' := 0) (sl' := 0) rfl rfl ?_
          refine V_istore_n 183 [(3, .int 0), (2, .int 0), (0, rf G 69), (1, .int (nI (wcF t z p)))] (by decide) rfl rfl dX11_readRow_182 rfl ?_
          refine V_aload_n 184 2 rfl _ rfl rfl dX11_readRow_183 rfl ?_
          refine V_callV (K' := 0) (S' := 0) 187 69 11 0 [] mkX11_fine lkX11_152 (by decide) rfl rfl (by decide) rfl (Nat.le_of_ble_eq_true rfl) (Nat.le_of_ble_eq_true rfl) (Nat.le_of_ble_eq_true rfl) (Nat.le_of_ble_eq_true rfl) rfl rfl dX11_readRow_184 rfl (c_X11_fine (fun e => absurd e nb167) (fun _ => ?_))
          refine Kq_i (k' := 0) (sl' := 0) rfl rfl ?_
          refine V_if_eq 197 190 rfl dX11_readRow_187 rfl (fun c187 => ?_) (fun c187 => absurd c187 (by decide))
          refine V_ret_v rfl (Nat.le_of_ble_eq_true rfl) (fun h => absurd h (by decide)) (Nat.le_of_ble_eq_true rfl) (hb _ _ _ _ ((if_neg q1).trans ((if_neg q2).trans ((if_neg q3).trans ((if_pos q4).trans ((if_neg (by decide)).trans (bd_no e167)))))) kk167.1 kk167.2 (by first | exact (sk_z ha).2.1 | exact hz167) FrY.rf ha167) dX11_readRow_197
      · have q1 : ¬ wcF t z p = ocF 1 := fun q => c6 ((wN hp (wdo 24 (by decide) (by decide) (by decide)) o1).mpr q)
        have q2 : ¬ wcF t z p = ocF 2 := fun q => c66 ((wN hp (wdo 25 (by decide) (by decide) (by decide)) o2).mpr q)
        have q3 := (wN hp (wdo 26 (by decide) (by decide) (by decide)) o3).mp c127
        have qf := hf3 q3
        refine V_aload_n 131 0 rfl _ rfl rfl dX11_readRow_130 rfl ?_
        refine V_getR 134 69 11 12 74 (hRM 12) flX11_29 rfl rfl rfl (by decide) dX11_readRow_131 rfl ?_
        refine V_aload_n 135 0 rfl _ rfl rfl dX11_readRow_134 rfl ?_
        refine V_getI 138 69 11 20 (nI (cM K)) (show lx _ _ _ _ 69 20 = _ from by rw [lx_69 (by decide) (by decide) (by decide)]; exact hN.2.2.1) flX11_172 rfl rfl rfl (by decide) dX11_readRow_135 rfl ?_
        refine V_aload_n 139 0 rfl _ rfl rfl dX11_readRow_138 rfl ?_
        refine V_iconst 140 (1) rfl dX11_readRow_139 rfl ?_
        refine V_bipush 142 (99) rfl dX11_readRow_140 rfl ?_
        refine V_callV (K' := 0) (S' := 0) 145 69 11 2 [.int 1, .int 99] mkX11_readNumber lkX11_212 (by decide) rfl rfl (by decide) rfl (Nat.le_of_ble_eq_true rfl) (Nat.le_of_ble_eq_true rfl) (Nat.le_of_ble_eq_true rfl) (Nat.le_of_ble_eq_true rfl) rfl rfl dX11_readRow_142 rfl (c_X11_readNumber (lo := 1) (cnt := 100) hRM hT (by decide) (by omega) (hh_lit 99 (by decide)) ha (fun e => absurd rfl e) (fun v142 _ e142 => ?_) (fun k142 a142 ha142 _ e142 => ?_))
        · refine Kq_i (k' := 0) (sl' := 0) rfl rfl ?_
          obtain ⟨-, -, lo142, hi142, -, -, lt142, hz142⟩ := pNum_ok e142
          refine V_iastN 146 74 6 (cM K) (by omega) (by decide) rfl (by decide) dX11_readRow_145 rfl ?_
          rw [lx_up (fun h => absurd h (by decide))]
          refine V_aload_n 147 0 rfl _ rfl rfl dX11_readRow_146 rfl ?_
          refine V_dup 148 rfl dX11_readRow_147 rfl ?_
          refine V_getI 151 69 11 20 (nI (cM K)) (show lx _ _ _ _ 69 20 = _ from by rw [lx_69 (by decide) (by decide) (by decide), up2_n _ _ _ (by decide)]; exact hN.2.2.1) flX11_172 rfl rfl rfl (by decide) dX11_readRow_148 rfl ?_
          refine V_iconst 152 (1) rfl dX11_readRow_151 rfl ?_
          refine V_iadd 153 dX11_readRow_152 rfl ?_
          refine V_rw (nI_add (cM K) 1) ?_
          refine V_putI 156 69 11 20 flX11_172 rfl rfl rfl (by decide) rfl dX11_readRow_153 rfl ?_
          rw [lx_up (fun _ => by decide)]
          refine V_goto 197 rfl dX11_readRow_156 ?_
          refine V_ret_v rfl (Nat.le_of_ble_eq_true rfl) (fun h => absurd h (by decide)) (Nat.le_of_ble_eq_true rfl) (hk _ _ _ _ ((if_neg q1).trans ((if_neg q2).trans ((if_pos q3).trans ((if_neg (fun q => q.elim (by decide) (by omega))).trans (bd_ok e142))))) (CoastN_man hN (hWp.2 _ (Nat.le_refl _))) (FrY.u (FrY.u FrY.rf (by omega)) (by omega)) (enF_z (sk_z ha).2.1).2.1 rfl) dX11_readRow_197
        · refine Kq_i (k' := 0) (sl' := 0) rfl rfl ?_
          have kk142 := pNum_k e142
          have nb142 : ¬ nI (sk t z (enF t z p)) = -1 := nI_ne (by first | omega | exact Nat.lt_of_le_of_lt (sk_z (t := t) ha).2.1 (by omega))
          refine V_iastN 146 74 6 (cM K) (by omega) (by decide) rfl (by decide) dX11_readRow_145 rfl ?_
          rw [lx_up (fun h => absurd h (by decide))]
          refine V_aload_n 147 0 rfl _ rfl rfl dX11_readRow_146 rfl ?_
          refine V_dup 148 rfl dX11_readRow_147 rfl ?_
          refine V_getI 151 69 11 20 (nI (cM K)) (show lx _ _ _ _ 69 20 = _ from by rw [lx_69 (by decide) (by decide) (by decide), up2_n _ _ _ (by decide)]; exact hN.2.2.1) flX11_172 rfl rfl rfl (by decide) dX11_readRow_148 rfl ?_
          refine V_iconst 152 (1) rfl dX11_readRow_151 rfl ?_
          refine V_iadd 153 dX11_readRow_152 rfl ?_
          refine V_rw (nI_add (cM K) 1) ?_
          refine V_putI 156 69 11 20 flX11_172 rfl rfl rfl (by decide) rfl dX11_readRow_153 rfl ?_
          rw [lx_up (fun _ => by decide)]
          refine V_goto 197 rfl dX11_readRow_156 ?_
          refine V_ret_v rfl (Nat.le_of_ble_eq_true rfl) (fun h => absurd h (by decide)) (Nat.le_of_ble_eq_true rfl) (hb _ _ _ _ ((if_neg q1).trans ((if_neg q2).trans ((if_pos q3).trans ((if_neg (fun q => q.elim (by decide) (by omega))).trans (bd_no e142))))) kk142.1 kk142.2 (by first | exact (sk_z ha).2.1 | exact hz142) (FrY.u (FrY.u FrY.rf (by omega)) (by omega)) ha142) dX11_readRow_197
    · have q1 : ¬ wcF t z p = ocF 1 := fun q => c6 ((wN hp (wdo 24 (by decide) (by decide) (by decide)) o1).mpr q)
      have q2 := (wN hp (wdo 25 (by decide) (by decide) (by decide)) o2).mp c66
      have qf := hf2 q2
      refine V_aload_n 70 0 rfl _ rfl rfl dX11_readRow_69 rfl ?_
      refine V_getR 73 69 11 11 73 (hRM 11) flX11_26 rfl rfl rfl (by decide) dX11_readRow_70 rfl ?_
      refine V_iconst 74 (2) rfl dX11_readRow_73 rfl ?_
      refine V_aload_n 75 0 rfl _ rfl rfl dX11_readRow_74 rfl ?_
      refine V_getI 78 69 11 19 (nI (cG K)) (show lx _ _ _ _ 69 19 = _ from by rw [lx_69 (by decide) (by decide) (by decide)]; exact hN.2.1) flX11_169 rfl rfl rfl (by decide) dX11_readRow_75 rfl ?_
      refine V_imul 79 dX11_readRow_78 rfl ?_
      refine V_rw (pk_mul 2 (cG K)) ?_
      refine V_aload_n 80 0 rfl _ rfl rfl dX11_readRow_79 rfl ?_
      refine V_iconst 81 (0) rfl dX11_readRow_80 rfl ?_
      refine V_sipush 84 (999) rfl dX11_readRow_81 rfl ?_
      refine V_callV (K' := 0) (S' := 0) 87 69 11 2 [.int 0, .int 999] mkX11_readNumber lkX11_212 (by decide) rfl rfl (by decide) rfl (Nat.le_of_ble_eq_true rfl) (Nat.le_of_ble_eq_true rfl) (Nat.le_of_ble_eq_true rfl) (Nat.le_of_ble_eq_true rfl) rfl rfl dX11_readRow_84 rfl (c_X11_readNumber (lo := 0) (cnt := 1000) hRM hT (by decide) (by omega) (hh_lit 999 (by decide)) ha (fun e => absurd rfl e) (fun v84 _ e84 => ?_) (fun k84 a84 ha84 _ e84 => ?_))
      · refine Kq_i (k' := 0) (sl' := 0) rfl rfl ?_
        obtain ⟨-, -, lo84, hi84, -, -, lt84, hz84⟩ := pNum_ok e84
        refine V_iastN 88 73 12 (2 * (cG K)) (by omega) (by decide) rfl (by decide) dX11_readRow_87 rfl ?_
        rw [lx_up (fun h => absurd h (by decide))]
        refine V_aload_n 89 0 rfl _ rfl rfl dX11_readRow_88 rfl ?_
        refine V_getR 92 69 11 11 73 (hRM 11) flX11_26 rfl rfl rfl (by decide) dX11_readRow_89 rfl ?_
        refine V_iconst 93 (2) rfl dX11_readRow_92 rfl ?_
        refine V_aload_n 94 0 rfl _ rfl rfl dX11_readRow_93 rfl ?_
        refine V_getI 97 69 11 19 (nI (cG K)) (show lx _ _ _ _ 69 19 = _ from by rw [lx_69 (by decide) (by decide) (by decide), up2_n _ _ _ (by decide)]; exact hN.2.1) flX11_169 rfl rfl rfl (by decide) dX11_readRow_94 rfl ?_
        refine V_imul 98 dX11_readRow_97 rfl ?_
        refine V_rw (pk_mul 2 (cG K)) ?_
        refine V_iconst 99 (1) rfl dX11_readRow_98 rfl ?_
        refine V_iadd 100 dX11_readRow_99 rfl ?_
        refine V_rw (nI_add (2 * (cG K)) 1) ?_
        refine V_aload_n 101 0 rfl _ rfl rfl dX11_readRow_100 rfl ?_
        refine V_iconst 102 (0) rfl dX11_readRow_101 rfl ?_
        refine V_bipush 104 (7) rfl dX11_readRow_102 rfl ?_
        refine V_callV (K' := 0) (S' := 0) 107 69 11 2 [.int 0, .int 7] mkX11_readNumber lkX11_212 (by decide) rfl rfl (by decide) rfl (Nat.le_of_ble_eq_true rfl) (Nat.le_of_ble_eq_true rfl) (Nat.le_of_ble_eq_true rfl) (Nat.le_of_ble_eq_true rfl) rfl rfl dX11_readRow_104 rfl (c_X11_readNumber (lo := 0) (cnt := 8) hRM (TxM.up hT (fun h => absurd h (by decide)) (by decide)) (by decide) (by omega) (hh_lit 7 (by decide)) (enF_z (sk_z ha).2.1).2.1 (fun e => absurd rfl e) (fun v104 _ e104 => ?_) (fun k104 a104 ha104 _ e104 => ?_))
        · refine Kq_i (k' := 0) (sl' := 0) rfl rfl ?_
          obtain ⟨-, -, lo104, hi104, -, -, lt104, hz104⟩ := pNum_ok e104
          refine V_iastN 108 73 12 ((2 * (cG K)) + 1) (by omega) (by decide) rfl (by decide) dX11_readRow_107 rfl ?_
          rw [lx_up (fun h => absurd h (by decide))]
          refine V_aload_n 109 0 rfl _ rfl rfl dX11_readRow_108 rfl ?_
          refine V_dup 110 rfl dX11_readRow_109 rfl ?_
          refine V_getI 113 69 11 19 (nI (cG K)) (show lx _ _ _ _ 69 19 = _ from by rw [lx_69 (by decide) (by decide) (by decide), up2_n _ _ _ (by decide), up2_n _ _ _ (by decide)]; exact hN.2.1) flX11_169 rfl rfl rfl (by decide) dX11_readRow_110 rfl ?_
          refine V_iconst 114 (1) rfl dX11_readRow_113 rfl ?_
          refine V_iadd 115 dX11_readRow_114 rfl ?_
          refine V_rw (nI_add (cG K) 1) ?_
          refine V_putI 118 69 11 19 flX11_169 rfl rfl rfl (by decide) rfl dX11_readRow_115 rfl ?_
          rw [lx_up (fun _ => by decide)]
          refine V_goto 197 rfl dX11_readRow_118 ?_
          refine V_ret_v rfl (Nat.le_of_ble_eq_true rfl) (fun h => absurd h (by decide)) (Nat.le_of_ble_eq_true rfl) (hk _ _ _ _ ((if_neg q1).trans ((if_pos q2).trans ((if_neg (fun q => q.elim (by decide) (by omega))).trans ((bd_ok e84).trans (bd_ok e104))))) (CoastN_gr hN) (FrY.u (FrY.u (FrY.u FrY.rf (by omega)) (by omega)) (by omega)) (enF_z (sk_z (enF_z (sk_z ha).2.1).2.1).2.1).2.1 rfl) dX11_readRow_197
        · refine Kq_i (k' := 0) (sl' := 0) rfl rfl ?_
          have kk104 := pNum_k e104
          have nb104 : ¬ nI (sk t z (enF t z (sk t z (enF t z p)))) = -1 := nI_ne (by first | omega | exact Nat.lt_of_le_of_lt (sk_z (t := t) (enF_z (sk_z ha).2.1).2.1).2.1 (by omega))
          refine V_iastN 108 73 12 ((2 * (cG K)) + 1) (by omega) (by decide) rfl (by decide) dX11_readRow_107 rfl ?_
          rw [lx_up (fun h => absurd h (by decide))]
          refine V_aload_n 109 0 rfl _ rfl rfl dX11_readRow_108 rfl ?_
          refine V_dup 110 rfl dX11_readRow_109 rfl ?_
          refine V_getI 113 69 11 19 (nI (cG K)) (show lx _ _ _ _ 69 19 = _ from by rw [lx_69 (by decide) (by decide) (by decide), up2_n _ _ _ (by decide), up2_n _ _ _ (by decide)]; exact hN.2.1) flX11_169 rfl rfl rfl (by decide) dX11_readRow_110 rfl ?_
          refine V_iconst 114 (1) rfl dX11_readRow_113 rfl ?_
          refine V_iadd 115 dX11_readRow_114 rfl ?_
          refine V_rw (nI_add (cG K) 1) ?_
          refine V_putI 118 69 11 19 flX11_169 rfl rfl rfl (by decide) rfl dX11_readRow_115 rfl ?_
          rw [lx_up (fun _ => by decide)]
          refine V_goto 197 rfl dX11_readRow_118 ?_
          refine V_ret_v rfl (Nat.le_of_ble_eq_true rfl) (fun h => absurd h (by decide)) (Nat.le_of_ble_eq_true rfl) (hb _ _ _ _ ((if_neg q1).trans ((if_pos q2).trans ((if_neg (fun q => q.elim (by decide) (by omega))).trans ((bd_ok e84).trans (bd_no e104))))) kk104.1 kk104.2 (by first | exact (sk_z ha).2.1 | exact hz84) (FrY.u (FrY.u (FrY.u FrY.rf (by omega)) (by omega)) (by omega)) ha104) dX11_readRow_197
      · refine Kq_i (k' := 0) (sl' := 0) rfl rfl ?_
        have kk84 := pNum_k e84
        have nb84 : ¬ nI (sk t z (enF t z p)) = -1 := nI_ne (by first | omega | exact Nat.lt_of_le_of_lt (sk_z (t := t) ha).2.1 (by omega))
        refine V_iastN 88 73 12 (2 * (cG K)) (by omega) (by decide) rfl (by decide) dX11_readRow_87 rfl ?_
        rw [lx_up (fun h => absurd h (by decide))]
        refine V_aload_n 89 0 rfl _ rfl rfl dX11_readRow_88 rfl ?_
        refine V_getR 92 69 11 11 73 (hRM 11) flX11_26 rfl rfl rfl (by decide) dX11_readRow_89 rfl ?_
        refine V_iconst 93 (2) rfl dX11_readRow_92 rfl ?_
        refine V_aload_n 94 0 rfl _ rfl rfl dX11_readRow_93 rfl ?_
        refine V_getI 97 69 11 19 (nI (cG K)) (show lx _ _ _ _ 69 19 = _ from by rw [lx_69 (by decide) (by decide) (by decide), up2_n _ _ _ (by decide)]; exact hN.2.1) flX11_169 rfl rfl rfl (by decide) dX11_readRow_94 rfl ?_
        refine V_imul 98 dX11_readRow_97 rfl ?_
        refine V_rw (pk_mul 2 (cG K)) ?_
        refine V_iconst 99 (1) rfl dX11_readRow_98 rfl ?_
        refine V_iadd 100 dX11_readRow_99 rfl ?_
        refine V_rw (nI_add (2 * (cG K)) 1) ?_
        refine V_aload_n 101 0 rfl _ rfl rfl dX11_readRow_100 rfl ?_
        refine V_iconst 102 (0) rfl dX11_readRow_101 rfl ?_
        refine V_bipush 104 (7) rfl dX11_readRow_102 rfl ?_
        refine V_callV (K' := 0) (S' := 0) 107 69 11 2 [.int 0, .int 7] mkX11_readNumber lkX11_212 (by decide) rfl rfl (by decide) rfl (Nat.le_of_ble_eq_true rfl) (Nat.le_of_ble_eq_true rfl) (Nat.le_of_ble_eq_true rfl) (Nat.le_of_ble_eq_true rfl) rfl rfl dX11_readRow_104 rfl (c_X11_readNumber (lo := 0) (cnt := 8) hRM (TxM.up hT (fun h => absurd h (by decide)) (by decide)) (by decide) (by omega) (hh_lit 7 (by decide)) ha84 (fun _ => ?_) (fun _ e _ => absurd e nb84) (fun _ _ _ e _ => absurd e nb84))
        refine Kq_i (k' := 0) (sl' := 0) rfl rfl ?_
        refine V_iastN 108 73 12 ((2 * (cG K)) + 1) (by omega) (by decide) rfl (by decide) dX11_readRow_107 rfl ?_
        rw [lx_up (fun h => absurd h (by decide))]
        refine V_aload_n 109 0 rfl _ rfl rfl dX11_readRow_108 rfl ?_
        refine V_dup 110 rfl dX11_readRow_109 rfl ?_
        refine V_getI 113 69 11 19 (nI (cG K)) (show lx _ _ _ _ 69 19 = _ from by rw [lx_69 (by decide) (by decide) (by decide), up2_n _ _ _ (by decide), up2_n _ _ _ (by decide)]; exact hN.2.1) flX11_169 rfl rfl rfl (by decide) dX11_readRow_110 rfl ?_
        refine V_iconst 114 (1) rfl dX11_readRow_113 rfl ?_
        refine V_iadd 115 dX11_readRow_114 rfl ?_
        refine V_rw (nI_add (cG K) 1) ?_
        refine V_putI 118 69 11 19 flX11_169 rfl rfl rfl (by decide) rfl dX11_readRow_115 rfl ?_
        rw [lx_up (fun _ => by decide)]
        refine V_goto 197 rfl dX11_readRow_118 ?_
        refine V_ret_v rfl (Nat.le_of_ble_eq_true rfl) (fun h => absurd h (by decide)) (Nat.le_of_ble_eq_true rfl) (hb _ _ _ _ ((if_neg q1).trans ((if_pos q2).trans ((if_neg (fun q => q.elim (by decide) (by omega))).trans (bd_no e84)))) kk84.1 kk84.2 (by first | exact (sk_z ha).2.1 | exact hz84) (FrY.u (FrY.u (FrY.u FrY.rf (by omega)) (by omega)) (by omega)) ha84) dX11_readRow_197
  · have q1 := (wN hp (wdo 24 (by decide) (by decide) (by decide)) o1).mp c6
    have qf := hf1 q1
    refine V_aload_n 10 0 rfl _ rfl rfl dX11_readRow_9 rfl ?_
    refine V_getR 13 69 11 10 72 (hRM 10) flX11_23 rfl rfl rfl (by decide) dX11_readRow_10 rfl ?_
    refine V_iconst 14 (2) rfl dX11_readRow_13 rfl ?_
    refine V_aload_n 15 0 rfl _ rfl rfl dX11_readRow_14 rfl ?_
    refine V_getI 18 69 11 18 (nI (cH K)) (show lx _ _ _ _ 69 18 = _ from by rw [lx_69 (by decide) (by decide) (by decide)]; exact hN.1) flX11_166 rfl rfl rfl (by decide) dX11_readRow_15 rfl ?_
    refine V_imul 19 dX11_readRow_18 rfl ?_
    refine V_rw (pk_mul 2 (cH K)) ?_
    refine V_aload_n 20 0 rfl _ rfl rfl dX11_readRow_19 rfl ?_
    refine V_iconst 21 (1) rfl dX11_readRow_20 rfl ?_
    refine V_bipush 23 (12) rfl dX11_readRow_21 rfl ?_
    refine V_callV (K' := 0) (S' := 0) 26 69 11 2 [.int 1, .int 12] mkX11_readNumber lkX11_212 (by decide) rfl rfl (by decide) rfl (Nat.le_of_ble_eq_true rfl) (Nat.le_of_ble_eq_true rfl) (Nat.le_of_ble_eq_true rfl) (Nat.le_of_ble_eq_true rfl) rfl rfl dX11_readRow_23 rfl (c_X11_readNumber (lo := 1) (cnt := 13) hRM hT (by decide) (by omega) (hh_lit 12 (by decide)) ha (fun e => absurd rfl e) (fun v23 _ e23 => ?_) (fun k23 a23 ha23 _ e23 => ?_))
    · refine Kq_i (k' := 0) (sl' := 0) rfl rfl ?_
      obtain ⟨-, -, lo23, hi23, -, -, lt23, hz23⟩ := pNum_ok e23
      refine V_iastN 27 72 16 (2 * (cH K)) (by omega) (by decide) rfl (by decide) dX11_readRow_26 rfl ?_
      rw [lx_up (fun h => absurd h (by decide))]
      refine V_aload_n 28 0 rfl _ rfl rfl dX11_readRow_27 rfl ?_
      refine V_getR 31 69 11 10 72 (hRM 10) flX11_23 rfl rfl rfl (by decide) dX11_readRow_28 rfl ?_
      refine V_iconst 32 (2) rfl dX11_readRow_31 rfl ?_
      refine V_aload_n 33 0 rfl _ rfl rfl dX11_readRow_32 rfl ?_
      refine V_getI 36 69 11 18 (nI (cH K)) (show lx _ _ _ _ 69 18 = _ from by rw [lx_69 (by decide) (by decide) (by decide), up2_n _ _ _ (by decide)]; exact hN.1) flX11_166 rfl rfl rfl (by decide) dX11_readRow_33 rfl ?_
      refine V_imul 37 dX11_readRow_36 rfl ?_
      refine V_rw (pk_mul 2 (cH K)) ?_
      refine V_iconst 38 (1) rfl dX11_readRow_37 rfl ?_
      refine V_iadd 39 dX11_readRow_38 rfl ?_
      refine V_rw (nI_add (2 * (cH K)) 1) ?_
      refine V_aload_n 40 0 rfl _ rfl rfl dX11_readRow_39 rfl ?_
      refine V_iconst 41 (0) rfl dX11_readRow_40 rfl ?_
      refine V_bipush 43 (7) rfl dX11_readRow_41 rfl ?_
      refine V_callV (K' := 0) (S' := 0) 46 69 11 2 [.int 0, .int 7] mkX11_readNumber lkX11_212 (by decide) rfl rfl (by decide) rfl (Nat.le_of_ble_eq_true rfl) (Nat.le_of_ble_eq_true rfl) (Nat.le_of_ble_eq_true rfl) (Nat.le_of_ble_eq_true rfl) rfl rfl dX11_readRow_43 rfl (c_X11_readNumber (lo := 0) (cnt := 8) hRM (TxM.up hT (fun h => absurd h (by decide)) (by decide)) (by decide) (by omega) (hh_lit 7 (by decide)) (enF_z (sk_z ha).2.1).2.1 (fun e => absurd rfl e) (fun v43 _ e43 => ?_) (fun k43 a43 ha43 _ e43 => ?_))
      · refine Kq_i (k' := 0) (sl' := 0) rfl rfl ?_
        obtain ⟨-, -, lo43, hi43, -, -, lt43, hz43⟩ := pNum_ok e43
        refine V_iastN 47 72 16 ((2 * (cH K)) + 1) (by omega) (by decide) rfl (by decide) dX11_readRow_46 rfl ?_
        rw [lx_up (fun h => absurd h (by decide))]
        refine V_aload_n 48 0 rfl _ rfl rfl dX11_readRow_47 rfl ?_
        refine V_dup 49 rfl dX11_readRow_48 rfl ?_
        refine V_getI 52 69 11 18 (nI (cH K)) (show lx _ _ _ _ 69 18 = _ from by rw [lx_69 (by decide) (by decide) (by decide), up2_n _ _ _ (by decide), up2_n _ _ _ (by decide)]; exact hN.1) flX11_166 rfl rfl rfl (by decide) dX11_readRow_49 rfl ?_
        refine V_iconst 53 (1) rfl dX11_readRow_52 rfl ?_
        refine V_iadd 54 dX11_readRow_53 rfl ?_
        refine V_rw (nI_add (cH K) 1) ?_
        refine V_putI 57 69 11 18 flX11_166 rfl rfl rfl (by decide) rfl dX11_readRow_54 rfl ?_
        rw [lx_up (fun _ => by decide)]
        refine V_goto 197 rfl dX11_readRow_57 ?_
        refine V_ret_v rfl (Nat.le_of_ble_eq_true rfl) (fun h => absurd h (by decide)) (Nat.le_of_ble_eq_true rfl) (hk _ _ _ _ ((if_pos q1).trans ((if_neg (fun q => q.elim (by decide) (by omega))).trans ((bd_ok e23).trans (bd_ok e43)))) (CoastN_hat hN) (FrY.u (FrY.u (FrY.u FrY.rf (by omega)) (by omega)) (by omega)) (enF_z (sk_z (enF_z (sk_z ha).2.1).2.1).2.1).2.1 rfl) dX11_readRow_197
      · refine Kq_i (k' := 0) (sl' := 0) rfl rfl ?_
        have kk43 := pNum_k e43
        have nb43 : ¬ nI (sk t z (enF t z (sk t z (enF t z p)))) = -1 := nI_ne (by first | omega | exact Nat.lt_of_le_of_lt (sk_z (t := t) (enF_z (sk_z ha).2.1).2.1).2.1 (by omega))
        refine V_iastN 47 72 16 ((2 * (cH K)) + 1) (by omega) (by decide) rfl (by decide) dX11_readRow_46 rfl ?_
        rw [lx_up (fun h => absurd h (by decide))]
        refine V_aload_n 48 0 rfl _ rfl rfl dX11_readRow_47 rfl ?_
        refine V_dup 49 rfl dX11_readRow_48 rfl ?_
        refine V_getI 52 69 11 18 (nI (cH K)) (show lx _ _ _ _ 69 18 = _ from by rw [lx_69 (by decide) (by decide) (by decide), up2_n _ _ _ (by decide), up2_n _ _ _ (by decide)]; exact hN.1) flX11_166 rfl rfl rfl (by decide) dX11_readRow_49 rfl ?_
        refine V_iconst 53 (1) rfl dX11_readRow_52 rfl ?_
        refine V_iadd 54 dX11_readRow_53 rfl ?_
        refine V_rw (nI_add (cH K) 1) ?_
        refine V_putI 57 69 11 18 flX11_166 rfl rfl rfl (by decide) rfl dX11_readRow_54 rfl ?_
        rw [lx_up (fun _ => by decide)]
        refine V_goto 197 rfl dX11_readRow_57 ?_
        refine V_ret_v rfl (Nat.le_of_ble_eq_true rfl) (fun h => absurd h (by decide)) (Nat.le_of_ble_eq_true rfl) (hb _ _ _ _ ((if_pos q1).trans ((if_neg (fun q => q.elim (by decide) (by omega))).trans ((bd_ok e23).trans (bd_no e43)))) kk43.1 kk43.2 (by first | exact (sk_z ha).2.1 | exact hz23) (FrY.u (FrY.u (FrY.u FrY.rf (by omega)) (by omega)) (by omega)) ha43) dX11_readRow_197
    · refine Kq_i (k' := 0) (sl' := 0) rfl rfl ?_
      have kk23 := pNum_k e23
      have nb23 : ¬ nI (sk t z (enF t z p)) = -1 := nI_ne (by first | omega | exact Nat.lt_of_le_of_lt (sk_z (t := t) ha).2.1 (by omega))
      refine V_iastN 27 72 16 (2 * (cH K)) (by omega) (by decide) rfl (by decide) dX11_readRow_26 rfl ?_
      rw [lx_up (fun h => absurd h (by decide))]
      refine V_aload_n 28 0 rfl _ rfl rfl dX11_readRow_27 rfl ?_
      refine V_getR 31 69 11 10 72 (hRM 10) flX11_23 rfl rfl rfl (by decide) dX11_readRow_28 rfl ?_
      refine V_iconst 32 (2) rfl dX11_readRow_31 rfl ?_
      refine V_aload_n 33 0 rfl _ rfl rfl dX11_readRow_32 rfl ?_
      refine V_getI 36 69 11 18 (nI (cH K)) (show lx _ _ _ _ 69 18 = _ from by rw [lx_69 (by decide) (by decide) (by decide), up2_n _ _ _ (by decide)]; exact hN.1) flX11_166 rfl rfl rfl (by decide) dX11_readRow_33 rfl ?_
      refine V_imul 37 dX11_readRow_36 rfl ?_
      refine V_rw (pk_mul 2 (cH K)) ?_
      refine V_iconst 38 (1) rfl dX11_readRow_37 rfl ?_
      refine V_iadd 39 dX11_readRow_38 rfl ?_
      refine V_rw (nI_add (2 * (cH K)) 1) ?_
      refine V_aload_n 40 0 rfl _ rfl rfl dX11_readRow_39 rfl ?_
      refine V_iconst 41 (0) rfl dX11_readRow_40 rfl ?_
      refine V_bipush 43 (7) rfl dX11_readRow_41 rfl ?_
      refine V_callV (K' := 0) (S' := 0) 46 69 11 2 [.int 0, .int 7] mkX11_readNumber lkX11_212 (by decide) rfl rfl (by decide) rfl (Nat.le_of_ble_eq_true rfl) (Nat.le_of_ble_eq_true rfl) (Nat.le_of_ble_eq_true rfl) (Nat.le_of_ble_eq_true rfl) rfl rfl dX11_readRow_43 rfl (c_X11_readNumber (lo := 0) (cnt := 8) hRM (TxM.up hT (fun h => absurd h (by decide)) (by decide)) (by decide) (by omega) (hh_lit 7 (by decide)) ha23 (fun _ => ?_) (fun _ e _ => absurd e nb23) (fun _ _ _ e _ => absurd e nb23))
      refine Kq_i (k' := 0) (sl' := 0) rfl rfl ?_
      refine V_iastN 47 72 16 ((2 * (cH K)) + 1) (by omega) (by decide) rfl (by decide) dX11_readRow_46 rfl ?_
      rw [lx_up (fun h => absurd h (by decide))]
      refine V_aload_n 48 0 rfl _ rfl rfl dX11_readRow_47 rfl ?_
      refine V_dup 49 rfl dX11_readRow_48 rfl ?_
      refine V_getI 52 69 11 18 (nI (cH K)) (show lx _ _ _ _ 69 18 = _ from by rw [lx_69 (by decide) (by decide) (by decide), up2_n _ _ _ (by decide), up2_n _ _ _ (by decide)]; exact hN.1) flX11_166 rfl rfl rfl (by decide) dX11_readRow_49 rfl ?_
      refine V_iconst 53 (1) rfl dX11_readRow_52 rfl ?_
      refine V_iadd 54 dX11_readRow_53 rfl ?_
      refine V_rw (nI_add (cH K) 1) ?_
      refine V_putI 57 69 11 18 flX11_166 rfl rfl rfl (by decide) rfl dX11_readRow_54 rfl ?_
      rw [lx_up (fun _ => by decide)]
      refine V_goto 197 rfl dX11_readRow_57 ?_
      refine V_ret_v rfl (Nat.le_of_ble_eq_true rfl) (fun h => absurd h (by decide)) (Nat.le_of_ble_eq_true rfl) (hb _ _ _ _ ((if_pos q1).trans ((if_neg (fun q => q.elim (by decide) (by omega))).trans (bd_no e23))) kk23.1 kk23.2 (by first | exact (sk_z ha).2.1 | exact hz23) (FrY.u (FrY.u (FrY.u FrY.rf (by omega)) (by omega)) (by omega)) ha23) dX11_readRow_197
set_option maxHeartbeats 4000000 in
theorem c_X11_isRow {G : Gx} {d : Nat} {I : FI} {R : FR} {J : FJ} {Q : Po} {t : Nat → Nat} {z p : Nat} (hp : p ≤ z) (h1 : isRw t z p → Q (.inl (some (.int 1))) 103 I R J) (h0 : ¬ isRw t z p → Q (.inl (some (.int 0))) 103 I R J) : Cc G mX11_isRow (d + 1 + 1 + 1 + 1 + 1) 0 0 [.int (nI (wcF t z p))] 103 I R J Q := by
  obtain ⟨o1, o2, o3, o4⟩ := oc_n
  have n1 := wN (t := t) hp (wdo 24 (by decide) (by decide) (by decide)) o1
  have n2 := wN (t := t) hp (wdo 25 (by decide) (by decide) (by decide)) o2
  have n3 := wN (t := t) hp (wdo 26 (by decide) (by decide) (by decide)) o3
  have n4 := wN (t := t) hp (wdo 27 (by decide) (by decide) (by decide)) o4
  show V _ _ _ _ _ _ _ _ [(0, .int (nI (wcF t z p)))] [] _ _ _ _ _
  refine V_iload_n 1 0 rfl rfl dX11_isRow_0 rfl ?_
  refine V_ldcS 3 24 rfl rfl dX11_isRow_1 rfl ?_
  refine V_callS (K' := 0) (S' := 0) 6 1 [sr G 24] mkX11_of lkX11_204 rfl (Nat.le_of_ble_eq_true rfl) (Nat.le_of_ble_eq_true rfl) (Nat.le_of_ble_eq_true rfl) (Nat.le_of_ble_eq_true rfl) rfl rfl dX11_isRow_3 rfl (c_X11_of (wdo 24 (by decide) (by decide) (by decide)) ?_)
  refine Kq_i (k' := 0) (sl' := 0) rfl rfl ?_
  refine V_icmp_eq 36 9 rfl dX11_isRow_6 rfl (fun c6 => ?_) (fun c6 => ?_)
  · refine V_iconst 37 (1) rfl dX11_isRow_36 rfl ?_
    refine V_goto 41 rfl dX11_isRow_37 ?_
    refine V_ret_i rfl (by first | rfl | decide) (Nat.le_of_ble_eq_true rfl) (fun h => absurd h (by decide)) (Nat.le_of_ble_eq_true rfl) (h1 (by first | exact Or.inl (n1.mp c6) | exact Or.inr (Or.inl (n2.mp c15)) | exact Or.inr (Or.inr (Or.inl (n3.mp c24))) | exact Or.inr (Or.inr (Or.inr (n4.mp c33))))) dX11_isRow_41
  · refine V_iload_n 10 0 rfl rfl dX11_isRow_9 rfl ?_
    refine V_ldcS 12 25 rfl rfl dX11_isRow_10 rfl ?_
    refine V_callS (K' := 0) (S' := 0) 15 1 [sr G 25] mkX11_of lkX11_204 rfl (Nat.le_of_ble_eq_true rfl) (Nat.le_of_ble_eq_true rfl) (Nat.le_of_ble_eq_true rfl) (Nat.le_of_ble_eq_true rfl) rfl rfl dX11_isRow_12 rfl (c_X11_of (wdo 25 (by decide) (by decide) (by decide)) ?_)
    refine Kq_i (k' := 0) (sl' := 0) rfl rfl ?_
    refine V_icmp_eq 36 18 rfl dX11_isRow_15 rfl (fun c15 => ?_) (fun c15 => ?_)
    · refine V_iconst 37 (1) rfl dX11_isRow_36 rfl ?_
      refine V_goto 41 rfl dX11_isRow_37 ?_
      refine V_ret_i rfl (by first | rfl | decide) (Nat.le_of_ble_eq_true rfl) (fun h => absurd h (by decide)) (Nat.le_of_ble_eq_true rfl) (h1 (by first | exact Or.inl (n1.mp c6) | exact Or.inr (Or.inl (n2.mp c15)) | exact Or.inr (Or.inr (Or.inl (n3.mp c24))) | exact Or.inr (Or.inr (Or.inr (n4.mp c33))))) dX11_isRow_41
    · refine V_iload_n 19 0 rfl rfl dX11_isRow_18 rfl ?_
      refine V_ldcS 21 26 rfl rfl dX11_isRow_19 rfl ?_
      refine V_callS (K' := 0) (S' := 0) 24 1 [sr G 26] mkX11_of lkX11_204 rfl (Nat.le_of_ble_eq_true rfl) (Nat.le_of_ble_eq_true rfl) (Nat.le_of_ble_eq_true rfl) (Nat.le_of_ble_eq_true rfl) rfl rfl dX11_isRow_21 rfl (c_X11_of (wdo 26 (by decide) (by decide) (by decide)) ?_)
      refine Kq_i (k' := 0) (sl' := 0) rfl rfl ?_
      refine V_icmp_eq 36 27 rfl dX11_isRow_24 rfl (fun c24 => ?_) (fun c24 => ?_)
      · refine V_iconst 37 (1) rfl dX11_isRow_36 rfl ?_
        refine V_goto 41 rfl dX11_isRow_37 ?_
        refine V_ret_i rfl (by first | rfl | decide) (Nat.le_of_ble_eq_true rfl) (fun h => absurd h (by decide)) (Nat.le_of_ble_eq_true rfl) (h1 (by first | exact Or.inl (n1.mp c6) | exact Or.inr (Or.inl (n2.mp c15)) | exact Or.inr (Or.inr (Or.inl (n3.mp c24))) | exact Or.inr (Or.inr (Or.inr (n4.mp c33))))) dX11_isRow_41
      · refine V_iload_n 28 0 rfl rfl dX11_isRow_27 rfl ?_
        refine V_ldcS 30 27 rfl rfl dX11_isRow_28 rfl ?_
        refine V_callS (K' := 0) (S' := 0) 33 1 [sr G 27] mkX11_of lkX11_204 rfl (Nat.le_of_ble_eq_true rfl) (Nat.le_of_ble_eq_true rfl) (Nat.le_of_ble_eq_true rfl) (Nat.le_of_ble_eq_true rfl) rfl rfl dX11_isRow_30 rfl (c_X11_of (wdo 27 (by decide) (by decide) (by decide)) ?_)
        refine Kq_i (k' := 0) (sl' := 0) rfl rfl ?_
        refine V_icmp_ne 40 36 rfl dX11_isRow_33 rfl (fun c33 => ?_) (fun c33 => ?_)
        · refine V_iconst 41 (0) rfl dX11_isRow_40 rfl ?_
          refine V_ret_i rfl (by first | rfl | decide) (Nat.le_of_ble_eq_true rfl) (fun h => absurd h (by decide)) (Nat.le_of_ble_eq_true rfl) (h0 (fun q => q.elim (fun q => c6 (n1.mpr q)) (fun q => q.elim (fun q => c15 (n2.mpr q)) (fun q => q.elim (fun q => c24 (n3.mpr q)) (fun q => c33 (n4.mpr q)))))) dX11_isRow_41
        · refine V_iconst 37 (1) rfl dX11_isRow_36 rfl ?_
          refine V_goto 41 rfl dX11_isRow_37 ?_
          refine V_ret_i rfl (by first | rfl | decide) (Nat.le_of_ble_eq_true rfl) (fun h => absurd h (by decide)) (Nat.le_of_ble_eq_true rfl) (h1 (by first | exact Or.inl (n1.mp c6) | exact Or.inr (Or.inl (n2.mp c15)) | exact Or.inr (Or.inr (Or.inl (n3.mp c24))) | exact Or.inr (Or.inr (Or.inr (n4.mp c33))))) dX11_isRow_41
def isFl (t : Nat → Nat) (z p : Nat) (K : CO) : Prop := (wcF t z p = ocF 1 ∧ cH K = 8) ∨ (wcF t z p = ocF 2 ∧ cG K = 6) ∨ (wcF t z p = ocF 3 ∧ cM K = 6)
set_option maxHeartbeats 4000000 in
theorem c_X11_isFull {G : Gx} {d : Nat} {I : FI} {R : FR} {J : FJ} {Q : Po} {t : Nat → Nat} {z p a : Nat} {b k : Int32} {K : CO} (hN : CoastN I K) (hWp : WKp K) (hp : p ≤ z) (h1 : isFl t z p K → Q (.inl (some (.int 1))) 103 (lx I a b k) R J) (h0 : ¬ isFl t z p K → Q (.inl (some (.int 0))) 103 (lx I a b k) R J) : Cc G mX11_isFull (d + 1 + 1 + 1 + 1 + 1) 0 0 [rf G 69, .int (nI (wcF t z p))] 103 (lx I a b k) R J Q := by
  have h8 := hWp.1.1
  have hg6 := hWp.1.2.1
  have hm6 := hWp.1.2.2.1
  obtain ⟨o1, o2, o3, o4⟩ := oc_n
  obtain ⟨d1, d2, d3, d4, d5, d6⟩ := oc_d
  have n1 := wN (t := t) hp (wdo 24 (by decide) (by decide) (by decide)) o1
  have n2 := wN (t := t) hp (wdo 25 (by decide) (by decide) (by decide)) o2
  have n3 := wN (t := t) hp (wdo 26 (by decide) (by decide) (by decide)) o3
  have k1 : nI (cH K) = 8 ↔ cH K = 8 := nI_eq (b := 8) (by omega) (by decide)
  have k2 : nI (cG K) = 6 ↔ cG K = 6 := nI_eq (b := 6) (by omega) (by decide)
  have k3 : nI (cM K) = 6 ↔ cM K = 6 := nI_eq (b := 6) (by omega) (by decide)
  show V _ _ _ _ _ _ _ _ [(0, rf G 69), (1, .int (nI (wcF t z p)))] [] _ _ _ _ _
  refine V_iload_n 1 1 rfl rfl dX11_isFull_0 rfl ?_
  refine V_ldcS 3 24 rfl rfl dX11_isFull_1 rfl ?_
  refine V_callS (K' := 0) (S' := 0) 6 1 [sr G 24] mkX11_of lkX11_204 rfl (Nat.le_of_ble_eq_true rfl) (Nat.le_of_ble_eq_true rfl) (Nat.le_of_ble_eq_true rfl) (Nat.le_of_ble_eq_true rfl) rfl rfl dX11_isFull_3 rfl (c_X11_of (wdo 24 (by decide) (by decide) (by decide)) ?_)
  refine Kq_i (k' := 0) (sl' := 0) rfl rfl ?_
  refine V_icmp_ne 18 9 rfl dX11_isFull_6 rfl (fun c6 => ?_) (fun c6 => ?_)
  · refine V_iload_n 19 1 rfl rfl dX11_isFull_18 rfl ?_
    refine V_ldcS 21 25 rfl rfl dX11_isFull_19 rfl ?_
    refine V_callS (K' := 0) (S' := 0) 24 1 [sr G 25] mkX11_of lkX11_204 rfl (Nat.le_of_ble_eq_true rfl) (Nat.le_of_ble_eq_true rfl) (Nat.le_of_ble_eq_true rfl) (Nat.le_of_ble_eq_true rfl) rfl rfl dX11_isFull_21 rfl (c_X11_of (wdo 25 (by decide) (by decide) (by decide)) ?_)
    refine Kq_i (k' := 0) (sl' := 0) rfl rfl ?_
    refine V_icmp_ne 36 27 rfl dX11_isFull_24 rfl (fun c24 => ?_) (fun c24 => ?_)
    · refine V_iload_n 37 1 rfl rfl dX11_isFull_36 rfl ?_
      refine V_ldcS 39 26 rfl rfl dX11_isFull_37 rfl ?_
      refine V_callS (K' := 0) (S' := 0) 42 1 [sr G 26] mkX11_of lkX11_204 rfl (Nat.le_of_ble_eq_true rfl) (Nat.le_of_ble_eq_true rfl) (Nat.le_of_ble_eq_true rfl) (Nat.le_of_ble_eq_true rfl) rfl rfl dX11_isFull_39 rfl (c_X11_of (wdo 26 (by decide) (by decide) (by decide)) ?_)
      refine Kq_i (k' := 0) (sl' := 0) rfl rfl ?_
      refine V_icmp_ne 58 45 rfl dX11_isFull_42 rfl (fun c42 => ?_) (fun c42 => ?_)
      · refine V_iconst 59 (0) rfl dX11_isFull_58 rfl ?_
        refine V_ret_i rfl (by first | rfl | decide) (Nat.le_of_ble_eq_true rfl) (fun h => absurd h (by decide)) (Nat.le_of_ble_eq_true rfl) (h0 (fun q => q.elim (fun q => by first | exact c6 (n1.mpr q.1) | exact c15 (k1.mpr q.2)) (fun q => q.elim (fun q => by first | exact c24 (n2.mpr q.1) | exact c33 (k2.mpr q.2)) (fun q => by first | exact c42 (n3.mpr q.1) | exact c51 (k3.mpr q.2))))) dX11_isFull_59
      · refine V_aload_n 46 0 rfl _ rfl rfl dX11_isFull_45 rfl ?_
        refine V_getI 49 69 11 20 (nI (cM K)) (show lx _ _ _ _ 69 20 = _ from by rw [lx_69 (by decide) (by decide) (by decide)]; exact hN.2.2.1) flX11_172 rfl rfl rfl (by decide) dX11_isFull_46 rfl ?_
        refine V_bipush 51 (6) rfl dX11_isFull_49 rfl ?_
        refine V_icmp_ne 58 54 rfl dX11_isFull_51 rfl (fun c51 => ?_) (fun c51 => ?_)
        · refine V_iconst 59 (0) rfl dX11_isFull_58 rfl ?_
          refine V_ret_i rfl (by first | rfl | decide) (Nat.le_of_ble_eq_true rfl) (fun h => absurd h (by decide)) (Nat.le_of_ble_eq_true rfl) (h0 (fun q => q.elim (fun q => by first | exact c6 (n1.mpr q.1) | exact c15 (k1.mpr q.2)) (fun q => q.elim (fun q => by first | exact c24 (n2.mpr q.1) | exact c33 (k2.mpr q.2)) (fun q => by first | exact c42 (n3.mpr q.1) | exact c51 (k3.mpr q.2))))) dX11_isFull_59
        · refine V_iconst 55 (1) rfl dX11_isFull_54 rfl ?_
          refine V_goto 59 rfl dX11_isFull_55 ?_
          refine V_ret_i rfl (by first | rfl | decide) (Nat.le_of_ble_eq_true rfl) (fun h => absurd h (by decide)) (Nat.le_of_ble_eq_true rfl) (h1 (by first | exact Or.inl ⟨n1.mp c6, k1.mp c15⟩ | exact Or.inr (Or.inl ⟨n2.mp c24, k2.mp c33⟩) | exact Or.inr (Or.inr ⟨n3.mp c42, k3.mp c51⟩))) dX11_isFull_59
    · refine V_aload_n 28 0 rfl _ rfl rfl dX11_isFull_27 rfl ?_
      refine V_getI 31 69 11 19 (nI (cG K)) (show lx _ _ _ _ 69 19 = _ from by rw [lx_69 (by decide) (by decide) (by decide)]; exact hN.2.1) flX11_169 rfl rfl rfl (by decide) dX11_isFull_28 rfl ?_
      refine V_bipush 33 (6) rfl dX11_isFull_31 rfl ?_
      refine V_icmp_eq 54 36 rfl dX11_isFull_33 rfl (fun c33 => ?_) (fun c33 => ?_)
      · refine V_iconst 55 (1) rfl dX11_isFull_54 rfl ?_
        refine V_goto 59 rfl dX11_isFull_55 ?_
        refine V_ret_i rfl (by first | rfl | decide) (Nat.le_of_ble_eq_true rfl) (fun h => absurd h (by decide)) (Nat.le_of_ble_eq_true rfl) (h1 (by first | exact Or.inl ⟨n1.mp c6, k1.mp c15⟩ | exact Or.inr (Or.inl ⟨n2.mp c24, k2.mp c33⟩) | exact Or.inr (Or.inr ⟨n3.mp c42, k3.mp c51⟩))) dX11_isFull_59
      · refine V_iload_n 37 1 rfl rfl dX11_isFull_36 rfl ?_
        refine V_ldcS 39 26 rfl rfl dX11_isFull_37 rfl ?_
        refine V_callS (K' := 0) (S' := 0) 42 1 [sr G 26] mkX11_of lkX11_204 rfl (Nat.le_of_ble_eq_true rfl) (Nat.le_of_ble_eq_true rfl) (Nat.le_of_ble_eq_true rfl) (Nat.le_of_ble_eq_true rfl) rfl rfl dX11_isFull_39 rfl (c_X11_of (wdo 26 (by decide) (by decide) (by decide)) ?_)
        refine Kq_i (k' := 0) (sl' := 0) rfl rfl ?_
        refine V_icmp_ne 58 45 rfl dX11_isFull_42 rfl (fun c42 => ?_) (fun c42 => ?_)
        · refine V_iconst 59 (0) rfl dX11_isFull_58 rfl ?_
          refine V_ret_i rfl (by first | rfl | decide) (Nat.le_of_ble_eq_true rfl) (fun h => absurd h (by decide)) (Nat.le_of_ble_eq_true rfl) (h0 (fun q => q.elim (fun q => by first | exact c6 (n1.mpr q.1) | exact c15 (k1.mpr q.2)) (fun q => q.elim (fun q => by first | exact c24 (n2.mpr q.1) | exact c33 (k2.mpr q.2)) (fun q => by first | exact c42 (n3.mpr q.1) | exact c51 (k3.mpr q.2))))) dX11_isFull_59
        · refine V_aload_n 46 0 rfl _ rfl rfl dX11_isFull_45 rfl ?_
          refine V_getI 49 69 11 20 (nI (cM K)) (show lx _ _ _ _ 69 20 = _ from by rw [lx_69 (by decide) (by decide) (by decide)]; exact hN.2.2.1) flX11_172 rfl rfl rfl (by decide) dX11_isFull_46 rfl ?_
          refine V_bipush 51 (6) rfl dX11_isFull_49 rfl ?_
          refine V_icmp_ne 58 54 rfl dX11_isFull_51 rfl (fun c51 => ?_) (fun c51 => ?_)
          · refine V_iconst 59 (0) rfl dX11_isFull_58 rfl ?_
            refine V_ret_i rfl (by first | rfl | decide) (Nat.le_of_ble_eq_true rfl) (fun h => absurd h (by decide)) (Nat.le_of_ble_eq_true rfl) (h0 (fun q => q.elim (fun q => by first | exact c6 (n1.mpr q.1) | exact c15 (k1.mpr q.2)) (fun q => q.elim (fun q => by first | exact c24 (n2.mpr q.1) | exact c33 (k2.mpr q.2)) (fun q => by first | exact c42 (n3.mpr q.1) | exact c51 (k3.mpr q.2))))) dX11_isFull_59
          · refine V_iconst 55 (1) rfl dX11_isFull_54 rfl ?_
            refine V_goto 59 rfl dX11_isFull_55 ?_
            refine V_ret_i rfl (by first | rfl | decide) (Nat.le_of_ble_eq_true rfl) (fun h => absurd h (by decide)) (Nat.le_of_ble_eq_true rfl) (h1 (by first | exact Or.inl ⟨n1.mp c6, k1.mp c15⟩ | exact Or.inr (Or.inl ⟨n2.mp c24, k2.mp c33⟩) | exact Or.inr (Or.inr ⟨n3.mp c42, k3.mp c51⟩))) dX11_isFull_59
  · refine V_aload_n 10 0 rfl _ rfl rfl dX11_isFull_9 rfl ?_
    refine V_getI 13 69 11 18 (nI (cH K)) (show lx _ _ _ _ 69 18 = _ from by rw [lx_69 (by decide) (by decide) (by decide)]; exact hN.1) flX11_166 rfl rfl rfl (by decide) dX11_isFull_10 rfl ?_
    refine V_bipush 15 (8) rfl dX11_isFull_13 rfl ?_
    refine V_icmp_eq 54 18 rfl dX11_isFull_15 rfl (fun c15 => ?_) (fun c15 => ?_)
    · refine V_iconst 55 (1) rfl dX11_isFull_54 rfl ?_
      refine V_goto 59 rfl dX11_isFull_55 ?_
      refine V_ret_i rfl (by first | rfl | decide) (Nat.le_of_ble_eq_true rfl) (fun h => absurd h (by decide)) (Nat.le_of_ble_eq_true rfl) (h1 (by first | exact Or.inl ⟨n1.mp c6, k1.mp c15⟩ | exact Or.inr (Or.inl ⟨n2.mp c24, k2.mp c33⟩) | exact Or.inr (Or.inr ⟨n3.mp c42, k3.mp c51⟩))) dX11_isFull_59
    · refine V_iload_n 19 1 rfl rfl dX11_isFull_18 rfl ?_
      refine V_ldcS 21 25 rfl rfl dX11_isFull_19 rfl ?_
      refine V_callS (K' := 0) (S' := 0) 24 1 [sr G 25] mkX11_of lkX11_204 rfl (Nat.le_of_ble_eq_true rfl) (Nat.le_of_ble_eq_true rfl) (Nat.le_of_ble_eq_true rfl) (Nat.le_of_ble_eq_true rfl) rfl rfl dX11_isFull_21 rfl (c_X11_of (wdo 25 (by decide) (by decide) (by decide)) ?_)
      refine Kq_i (k' := 0) (sl' := 0) rfl rfl ?_
      refine V_icmp_ne 36 27 rfl dX11_isFull_24 rfl (fun c24 => ?_) (fun c24 => ?_)
      · refine V_iload_n 37 1 rfl rfl dX11_isFull_36 rfl ?_
        refine V_ldcS 39 26 rfl rfl dX11_isFull_37 rfl ?_
        refine V_callS (K' := 0) (S' := 0) 42 1 [sr G 26] mkX11_of lkX11_204 rfl (Nat.le_of_ble_eq_true rfl) (Nat.le_of_ble_eq_true rfl) (Nat.le_of_ble_eq_true rfl) (Nat.le_of_ble_eq_true rfl) rfl rfl dX11_isFull_39 rfl (c_X11_of (wdo 26 (by decide) (by decide) (by decide)) ?_)
        refine Kq_i (k' := 0) (sl' := 0) rfl rfl ?_
        refine V_icmp_ne 58 45 rfl dX11_isFull_42 rfl (fun c42 => ?_) (fun c42 => ?_)
        · refine V_iconst 59 (0) rfl dX11_isFull_58 rfl ?_
          refine V_ret_i rfl (by first | rfl | decide) (Nat.le_of_ble_eq_true rfl) (fun h => absurd h (by decide)) (Nat.le_of_ble_eq_true rfl) (h0 (fun q => q.elim (fun q => by first | exact c6 (n1.mpr q.1) | exact c15 (k1.mpr q.2)) (fun q => q.elim (fun q => by first | exact c24 (n2.mpr q.1) | exact c33 (k2.mpr q.2)) (fun q => by first | exact c42 (n3.mpr q.1) | exact c51 (k3.mpr q.2))))) dX11_isFull_59
        · refine V_aload_n 46 0 rfl _ rfl rfl dX11_isFull_45 rfl ?_
          refine V_getI 49 69 11 20 (nI (cM K)) (show lx _ _ _ _ 69 20 = _ from by rw [lx_69 (by decide) (by decide) (by decide)]; exact hN.2.2.1) flX11_172 rfl rfl rfl (by decide) dX11_isFull_46 rfl ?_
          refine V_bipush 51 (6) rfl dX11_isFull_49 rfl ?_
          refine V_icmp_ne 58 54 rfl dX11_isFull_51 rfl (fun c51 => ?_) (fun c51 => ?_)
          · refine V_iconst 59 (0) rfl dX11_isFull_58 rfl ?_
            refine V_ret_i rfl (by first | rfl | decide) (Nat.le_of_ble_eq_true rfl) (fun h => absurd h (by decide)) (Nat.le_of_ble_eq_true rfl) (h0 (fun q => q.elim (fun q => by first | exact c6 (n1.mpr q.1) | exact c15 (k1.mpr q.2)) (fun q => q.elim (fun q => by first | exact c24 (n2.mpr q.1) | exact c33 (k2.mpr q.2)) (fun q => by first | exact c42 (n3.mpr q.1) | exact c51 (k3.mpr q.2))))) dX11_isFull_59
          · refine V_iconst 55 (1) rfl dX11_isFull_54 rfl ?_
            refine V_goto 59 rfl dX11_isFull_55 ?_
            refine V_ret_i rfl (by first | rfl | decide) (Nat.le_of_ble_eq_true rfl) (fun h => absurd h (by decide)) (Nat.le_of_ble_eq_true rfl) (h1 (by first | exact Or.inl ⟨n1.mp c6, k1.mp c15⟩ | exact Or.inr (Or.inl ⟨n2.mp c24, k2.mp c33⟩) | exact Or.inr (Or.inr ⟨n3.mp c42, k3.mp c51⟩))) dX11_isFull_59
      · refine V_aload_n 28 0 rfl _ rfl rfl dX11_isFull_27 rfl ?_
        refine V_getI 31 69 11 19 (nI (cG K)) (show lx _ _ _ _ 69 19 = _ from by rw [lx_69 (by decide) (by decide) (by decide)]; exact hN.2.1) flX11_169 rfl rfl rfl (by decide) dX11_isFull_28 rfl ?_
        refine V_bipush 33 (6) rfl dX11_isFull_31 rfl ?_
        refine V_icmp_eq 54 36 rfl dX11_isFull_33 rfl (fun c33 => ?_) (fun c33 => ?_)
        · refine V_iconst 55 (1) rfl dX11_isFull_54 rfl ?_
          refine V_goto 59 rfl dX11_isFull_55 ?_
          refine V_ret_i rfl (by first | rfl | decide) (Nat.le_of_ble_eq_true rfl) (fun h => absurd h (by decide)) (Nat.le_of_ble_eq_true rfl) (h1 (by first | exact Or.inl ⟨n1.mp c6, k1.mp c15⟩ | exact Or.inr (Or.inl ⟨n2.mp c24, k2.mp c33⟩) | exact Or.inr (Or.inr ⟨n3.mp c42, k3.mp c51⟩))) dX11_isFull_59
        · refine V_iload_n 37 1 rfl rfl dX11_isFull_36 rfl ?_
          refine V_ldcS 39 26 rfl rfl dX11_isFull_37 rfl ?_
          refine V_callS (K' := 0) (S' := 0) 42 1 [sr G 26] mkX11_of lkX11_204 rfl (Nat.le_of_ble_eq_true rfl) (Nat.le_of_ble_eq_true rfl) (Nat.le_of_ble_eq_true rfl) (Nat.le_of_ble_eq_true rfl) rfl rfl dX11_isFull_39 rfl (c_X11_of (wdo 26 (by decide) (by decide) (by decide)) ?_)
          refine Kq_i (k' := 0) (sl' := 0) rfl rfl ?_
          refine V_icmp_ne 58 45 rfl dX11_isFull_42 rfl (fun c42 => ?_) (fun c42 => ?_)
          · refine V_iconst 59 (0) rfl dX11_isFull_58 rfl ?_
            refine V_ret_i rfl (by first | rfl | decide) (Nat.le_of_ble_eq_true rfl) (fun h => absurd h (by decide)) (Nat.le_of_ble_eq_true rfl) (h0 (fun q => q.elim (fun q => by first | exact c6 (n1.mpr q.1) | exact c15 (k1.mpr q.2)) (fun q => q.elim (fun q => by first | exact c24 (n2.mpr q.1) | exact c33 (k2.mpr q.2)) (fun q => by first | exact c42 (n3.mpr q.1) | exact c51 (k3.mpr q.2))))) dX11_isFull_59
          · refine V_aload_n 46 0 rfl _ rfl rfl dX11_isFull_45 rfl ?_
            refine V_getI 49 69 11 20 (nI (cM K)) (show lx _ _ _ _ 69 20 = _ from by rw [lx_69 (by decide) (by decide) (by decide)]; exact hN.2.2.1) flX11_172 rfl rfl rfl (by decide) dX11_isFull_46 rfl ?_
            refine V_bipush 51 (6) rfl dX11_isFull_49 rfl ?_
            refine V_icmp_ne 58 54 rfl dX11_isFull_51 rfl (fun c51 => ?_) (fun c51 => ?_)
            · refine V_iconst 59 (0) rfl dX11_isFull_58 rfl ?_
              refine V_ret_i rfl (by first | rfl | decide) (Nat.le_of_ble_eq_true rfl) (fun h => absurd h (by decide)) (Nat.le_of_ble_eq_true rfl) (h0 (fun q => q.elim (fun q => by first | exact c6 (n1.mpr q.1) | exact c15 (k1.mpr q.2)) (fun q => q.elim (fun q => by first | exact c24 (n2.mpr q.1) | exact c33 (k2.mpr q.2)) (fun q => by first | exact c42 (n3.mpr q.1) | exact c51 (k3.mpr q.2))))) dX11_isFull_59
            · refine V_iconst 55 (1) rfl dX11_isFull_54 rfl ?_
              refine V_goto 59 rfl dX11_isFull_55 ?_
              refine V_ret_i rfl (by first | rfl | decide) (Nat.le_of_ble_eq_true rfl) (fun h => absurd h (by decide)) (Nat.le_of_ble_eq_true rfl) (h1 (by first | exact Or.inl ⟨n1.mp c6, k1.mp c15⟩ | exact Or.inr (Or.inl ⟨n2.mp c24, k2.mp c33⟩) | exact Or.inr (Or.inr ⟨n3.mp c42, k3.mp c51⟩))) dX11_isFull_59
theorem pCl_fl {t : Nat → Nat} {z fl p : Nat} {K : CO} (hr : isRw t z p) (h : fl = 1 ∨ isFl t z p K) : pCl t z fl K p = .inl (3, p) := by
  obtain ⟨d1, d2, d3, d4, d5, d6⟩ := oc_d
  unfold pCl
  rcases hr with q | q | q | q
  · rw [if_pos q]
    refine if_pos ?_
    rcases h with h | h
    · exact Or.inl h
    · rcases h with ⟨-, h⟩ | ⟨h, -⟩ | ⟨h, -⟩
      · exact Or.inr (by omega)
      · exact absurd (q.symm.trans h) d1
      · exact absurd (q.symm.trans h) d2
  · rw [if_neg (fun e => d1 (e.symm.trans q)), if_pos q]
    refine if_pos ?_
    rcases h with h | h
    · exact Or.inl h
    · rcases h with ⟨h, -⟩ | ⟨-, h⟩ | ⟨h, -⟩
      · exact absurd (h.symm.trans q) d1
      · exact Or.inr (by omega)
      · exact absurd (q.symm.trans h) d4
  · rw [if_neg (fun e => d2 (e.symm.trans q)), if_neg (fun e => d4 (e.symm.trans q)), if_pos q]
    refine if_pos ?_
    rcases h with h | h
    · exact Or.inl h
    · rcases h with ⟨h, -⟩ | ⟨h, -⟩ | ⟨-, h⟩
      · exact absurd (h.symm.trans q) d2
      · exact absurd (h.symm.trans q) d4
      · exact Or.inr (by omega)
  · rw [if_neg (fun e => d3 (e.symm.trans q)), if_neg (fun e => d5 (e.symm.trans q)), if_neg (fun e => d6 (e.symm.trans q)), if_pos q]
    refine if_pos ?_
    rcases h with h | h
    · exact h
    · rcases h with ⟨h, -⟩ | ⟨h, -⟩ | ⟨h, -⟩
      · exact absurd (h.symm.trans q) d3
      · exact absurd (h.symm.trans q) d5
      · exact absurd (h.symm.trans q) d6
theorem pCl_nr {t : Nat → Nat} {z fl p : Nat} {K : CO} (hr : ¬ isRw t z p) : pCl t z fl K p = .inl (1, p) := by
  unfold pCl
  rw [if_neg (fun e => hr (Or.inl e)), if_neg (fun e => hr (Or.inr (Or.inl e))), if_neg (fun e => hr (Or.inr (Or.inr (Or.inl e)))), if_neg (fun e => hr (Or.inr (Or.inr (Or.inr e))))]
theorem rw_word {t : Nat → Nat} {z p : Nat} (hp : p ≤ z) (hr : isRw t z p) : sc le_ t z p = enF t z p ∧ p < z := by
  rcases hr with q | q | q | q
  · exact en_wd hp (wdo 1 (by decide) (by decide) (by decide)) q
  · exact en_wd hp (wdo 2 (by decide) (by decide) (by decide)) q
  · exact en_wd hp (wdo 3 (by decide) (by decide) (by decide)) q
  · exact en_wd hp (wdo 4 (by decide) (by decide) (by decide)) q
set_option maxHeartbeats 8000000 in
theorem w_X11_coast {G : Gx} {d : Nat} {I : FI} {R : FR} {J : FJ} {Q : Po} {k : Int32} (hRM : ∀ k, R 69 k = refM k) {t : Nat → Nat} {z : Nat} (hT : TxM I t z) (hk : ∀ K' I' a' k', coF t z = .inr K' → CoastN I' K' → WKp K' → FrY I I' → a' ≤ z → V G mX11_coast (d + 10) 0 0 0 0 136 [(0, rf G 69)] [] 103 (lx I' a' (-1) k') R J Q) (hb : ∀ kd q I' a', coF t z = .inl (kd, q) → 0 < kd → kd ≤ 3 → q ≤ z → FrY I I' → a' ≤ z → V G mX11_coast (d + 10) 0 0 0 0 136 [(0, rf G 69)] [] 103 (lx I' a' (nI q) (nI kd)) R J Q) : ∀ f n K a I1, f + n = 61 → n ≤ 60 → a ≤ z → CoastN I1 K → WKp K → FrY I I1 → coF t z = pCo t z f n K (sk t z a) → V G mX11_coast (d + 10) 0 0 0 0 44 [(2, .int (nI n)), (0, rf G 69)] [] 103 (lx I1 a (-1) k) R J Q := by
  have h6 := hT.2.1
  intro f
  induction f with
  | zero => intro n K a I1 h1 h2; omega
  | succ f ih =>
    intro n K a I1 hfn hn ha hN hWp hx eq
    have hT1 := hx.T hT
    obtain ⟨hs1, hs2, hs3⟩ := sk_z (t := t) ha
    rw [pCo] at eq
    obtain ⟨p, ep⟩ : ∃ p, p = sk t z a := ⟨_, rfl⟩
    rw [← ep] at eq hs1 hs2
    have esk : sk t z p = p := by rw [ep]; exact sk_sk ha
    by_cases cz : z ≤ p
    · refine V_aload_n 45 1 rfl _ rfl rfl dX11_coast_44 rfl ?_
      refine V_callV (K' := 0) (S' := 0) 48 69 11 0 [] mkX11_fine lkX11_152 (by decide) rfl rfl (by decide) rfl (Nat.le_of_ble_eq_true rfl) (Nat.le_of_ble_eq_true rfl) (Nat.le_of_ble_eq_true rfl) (Nat.le_of_ble_eq_true rfl) rfl rfl dX11_coast_45 rfl (c_X11_fine (fun _ => ?_) (fun e => absurd rfl e))
      refine Kq_i (k' := 0) (sl' := 0) rfl rfl ?_
      refine V_if_eq 136 51 rfl dX11_coast_48 rfl (fun c48 => absurd c48 (by decide)) (fun c48 => ?_)
      refine V_aload_n 52 1 rfl _ rfl rfl dX11_coast_51 rfl ?_
      refine V_callV (K' := 0) (S' := 0) 55 69 11 0 [] mkX11_isMore lkX11_224 (by decide) rfl rfl (by decide) rfl (Nat.le_of_ble_eq_true rfl) (Nat.le_of_ble_eq_true rfl) (Nat.le_of_ble_eq_true rfl) (Nat.le_of_ble_eq_true rfl) rfl rfl dX11_coast_52 rfl (c_X11_isMore hRM hT1 ha (fun q => absurd (show sk t z a < z from q) (by omega)) (fun q => ?_))
      rw [← ep]
      refine Kq_i (k' := 0) (sl' := 0) rfl rfl ?_
      refine V_if_eq 136 58 rfl dX11_coast_55 rfl (fun c55 => ?_) (fun c55 => absurd c55 (by decide))
      exact V_lv [1] rfl (hk K I1 p k (eq.trans (if_pos cz)) hN hWp hx hs2)
    · rw [if_neg cz] at eq
      by_cases hr : isRw t z p
      · obtain ⟨ew, hpz⟩ := rw_word hs2 hr
        by_cases c60 : n < 60
        · rw [if_pos c60] at eq
          by_cases hf : isFl t z p K
          · refine V_aload_n 45 1 rfl _ rfl rfl dX11_coast_44 rfl ?_
            refine V_callV (K' := 0) (S' := 0) 48 69 11 0 [] mkX11_fine lkX11_152 (by decide) rfl rfl (by decide) rfl (Nat.le_of_ble_eq_true rfl) (Nat.le_of_ble_eq_true rfl) (Nat.le_of_ble_eq_true rfl) (Nat.le_of_ble_eq_true rfl) rfl rfl dX11_coast_45 rfl (c_X11_fine (fun _ => ?_) (fun e => absurd rfl e))
            refine Kq_i (k' := 0) (sl' := 0) rfl rfl ?_
            refine V_if_eq 136 51 rfl dX11_coast_48 rfl (fun c48 => absurd c48 (by decide)) (fun c48 => ?_)
            refine V_aload_n 52 1 rfl _ rfl rfl dX11_coast_51 rfl ?_
            refine V_callV (K' := 0) (S' := 0) 55 69 11 0 [] mkX11_isMore lkX11_224 (by decide) rfl rfl (by decide) rfl (Nat.le_of_ble_eq_true rfl) (Nat.le_of_ble_eq_true rfl) (Nat.le_of_ble_eq_true rfl) (Nat.le_of_ble_eq_true rfl) rfl rfl dX11_coast_52 rfl (c_X11_isMore hRM hT1 ha (fun q => ?_) (fun q => absurd (show p < z by omega) (fun q2 => q (by rw [← ep]; exact q2))))
            rw [← ep]
            refine Kq_i (k' := 0) (sl' := 0) rfl rfl ?_
            refine V_if_eq 136 58 rfl dX11_coast_55 rfl (fun c55 => absurd c55 (by decide)) (fun c55 => ?_)
            refine V_aload_n 59 1 rfl _ rfl rfl dX11_coast_58 rfl ?_
            refine V_callV (K' := 0) (S' := 0) 62 69 11 0 [] mkX11_word lkX11_227 (by decide) rfl rfl (by decide) rfl (Nat.le_of_ble_eq_true rfl) (Nat.le_of_ble_eq_true rfl) (Nat.le_of_ble_eq_true rfl) (Nat.le_of_ble_eq_true rfl) rfl rfl dX11_coast_59 rfl (c_X11_word hRM hT1 hs2 ?_)
            rw [esk]
            refine Kq_i (k' := 0) (sl' := 0) rfl rfl ?_
            refine V_istore_n 63 [(3, .int (nI (wcF t z p))), (2, .int (nI n)), (0, rf G 69)] (by decide) rfl rfl dX11_coast_62 rfl ?_
            refine V_iload_n 64 0 rfl rfl dX11_coast_63 rfl ?_
            refine V_callS (K' := 0) (S' := 0) 67 1 [.int (nI (wcF t z p))] mkX11_isRow lkX11_230 rfl (Nat.le_of_ble_eq_true rfl) (Nat.le_of_ble_eq_true rfl) (Nat.le_of_ble_eq_true rfl) (Nat.le_of_ble_eq_true rfl) rfl rfl dX11_coast_64 rfl (c_X11_isRow hs2 (fun q => ?_) (fun q => absurd hr q))
            refine Kq_i (k' := 0) (sl' := 0) rfl rfl ?_
            refine V_if_ne 82 70 rfl dX11_coast_67 rfl (fun c67 => ?_) (fun c67 => absurd c67 (by decide))
            refine V_iload_n 83 1 rfl rfl dX11_coast_82 rfl ?_
            refine V_bipush 85 (60) rfl dX11_coast_83 rfl ?_
            refine V_icmp_eq 96 88 rfl dX11_coast_85 rfl (fun c85 => absurd ((nI_eq (b := 60) (by omega) (by decide)).mp c85) (by omega)) (fun c85 => ?_)
            refine V_aload_n 89 2 rfl _ rfl rfl dX11_coast_88 rfl ?_
            refine V_iload_n 90 0 rfl rfl dX11_coast_89 rfl ?_
            refine V_callV (K' := 0) (S' := 0) 93 69 11 1 [.int (nI (wcF t z p))] mkX11_isFull lkX11_233 (by decide) rfl rfl (by decide) rfl (Nat.le_of_ble_eq_true rfl) (Nat.le_of_ble_eq_true rfl) (Nat.le_of_ble_eq_true rfl) (Nat.le_of_ble_eq_true rfl) rfl rfl dX11_coast_90 rfl (c_X11_isFull hN hWp hs2 (fun q => ?_) (fun q => absurd hf q))
            refine Kq_i (k' := 0) (sl' := 0) rfl rfl ?_
            refine V_if_eq 105 96 rfl dX11_coast_93 rfl (fun c93 => absurd c93 (by decide)) (fun c93 => ?_)
            refine V_aload_n 97 2 rfl _ rfl rfl dX11_coast_96 rfl ?_
            refine V_iconst 98 (3) rfl dX11_coast_97 rfl ?_
            refine V_aload_n 99 2 rfl _ rfl rfl dX11_coast_98 rfl ?_
            refine V_getI 102 69 11 4 (nI p) rfl flX11_129 rfl rfl rfl (by decide) dX11_coast_99 rfl ?_
            refine V_callV (K' := 0) (S' := 0) 105 69 11 2 [.int 3, .int (nI p)] mkX11_wrong lkX11_159 (by decide) rfl rfl (by decide) rfl (Nat.le_of_ble_eq_true rfl) (Nat.le_of_ble_eq_true rfl) (Nat.le_of_ble_eq_true rfl) (Nat.le_of_ble_eq_true rfl) rfl rfl dX11_coast_102 rfl (c_X11_wrong (kd := 3) (q := p) (fun e => absurd rfl e) (fun _ => ?_))
            refine Kq_v (k' := 0) (sl' := 0) rfl rfl ?_
            refine V_aload_n 106 2 rfl _ rfl rfl dX11_coast_105 rfl ?_
            refine V_callV (K' := 0) (S' := 0) 109 69 11 0 [] mkX11_fine lkX11_152 (by decide) rfl rfl (by decide) rfl (Nat.le_of_ble_eq_true rfl) (Nat.le_of_ble_eq_true rfl) (Nat.le_of_ble_eq_true rfl) (Nat.le_of_ble_eq_true rfl) rfl rfl dX11_coast_106 rfl (c_X11_fine (fun e => absurd e (nI_ne (by omega))) (fun _ => ?_))
            refine Kq_i (k' := 0) (sl' := 0) rfl rfl ?_
            refine V_if_ne 115 112 rfl dX11_coast_109 rfl (fun c109 => absurd c109 (by decide)) (fun c109 => ?_)
            refine V_goto 136 rfl dX11_coast_112 ?_
            exact V_lv [2] rfl (hb _ _ I1 p (eq.trans (bd_no (pCs_n1 (pCl_fl hr (Or.inr hf))))) (by decide) (by decide) hs2 hx hs2)
          · refine V_aload_n 45 1 rfl _ rfl rfl dX11_coast_44 rfl ?_
            refine V_callV (K' := 0) (S' := 0) 48 69 11 0 [] mkX11_fine lkX11_152 (by decide) rfl rfl (by decide) rfl (Nat.le_of_ble_eq_true rfl) (Nat.le_of_ble_eq_true rfl) (Nat.le_of_ble_eq_true rfl) (Nat.le_of_ble_eq_true rfl) rfl rfl dX11_coast_45 rfl (c_X11_fine (fun _ => ?_) (fun e => absurd rfl e))
            refine Kq_i (k' := 0) (sl' := 0) rfl rfl ?_
            refine V_if_eq 136 51 rfl dX11_coast_48 rfl (fun c48 => absurd c48 (by decide)) (fun c48 => ?_)
            refine V_aload_n 52 1 rfl _ rfl rfl dX11_coast_51 rfl ?_
            refine V_callV (K' := 0) (S' := 0) 55 69 11 0 [] mkX11_isMore lkX11_224 (by decide) rfl rfl (by decide) rfl (Nat.le_of_ble_eq_true rfl) (Nat.le_of_ble_eq_true rfl) (Nat.le_of_ble_eq_true rfl) (Nat.le_of_ble_eq_true rfl) rfl rfl dX11_coast_52 rfl (c_X11_isMore hRM hT1 ha (fun q => ?_) (fun q => absurd (show p < z by omega) (fun q2 => q (by rw [← ep]; exact q2))))
            rw [← ep]
            refine Kq_i (k' := 0) (sl' := 0) rfl rfl ?_
            refine V_if_eq 136 58 rfl dX11_coast_55 rfl (fun c55 => absurd c55 (by decide)) (fun c55 => ?_)
            refine V_aload_n 59 1 rfl _ rfl rfl dX11_coast_58 rfl ?_
            refine V_callV (K' := 0) (S' := 0) 62 69 11 0 [] mkX11_word lkX11_227 (by decide) rfl rfl (by decide) rfl (Nat.le_of_ble_eq_true rfl) (Nat.le_of_ble_eq_true rfl) (Nat.le_of_ble_eq_true rfl) (Nat.le_of_ble_eq_true rfl) rfl rfl dX11_coast_59 rfl (c_X11_word hRM hT1 hs2 ?_)
            rw [esk]
            refine Kq_i (k' := 0) (sl' := 0) rfl rfl ?_
            refine V_istore_n 63 [(3, .int (nI (wcF t z p))), (2, .int (nI n)), (0, rf G 69)] (by decide) rfl rfl dX11_coast_62 rfl ?_
            refine V_iload_n 64 0 rfl rfl dX11_coast_63 rfl ?_
            refine V_callS (K' := 0) (S' := 0) 67 1 [.int (nI (wcF t z p))] mkX11_isRow lkX11_230 rfl (Nat.le_of_ble_eq_true rfl) (Nat.le_of_ble_eq_true rfl) (Nat.le_of_ble_eq_true rfl) (Nat.le_of_ble_eq_true rfl) rfl rfl dX11_coast_64 rfl (c_X11_isRow hs2 (fun q => ?_) (fun q => absurd hr q))
            refine Kq_i (k' := 0) (sl' := 0) rfl rfl ?_
            refine V_if_ne 82 70 rfl dX11_coast_67 rfl (fun c67 => ?_) (fun c67 => absurd c67 (by decide))
            refine V_iload_n 83 1 rfl rfl dX11_coast_82 rfl ?_
            refine V_bipush 85 (60) rfl dX11_coast_83 rfl ?_
            refine V_icmp_eq 96 88 rfl dX11_coast_85 rfl (fun c85 => absurd ((nI_eq (b := 60) (by omega) (by decide)).mp c85) (by omega)) (fun c85 => ?_)
            refine V_aload_n 89 2 rfl _ rfl rfl dX11_coast_88 rfl ?_
            refine V_iload_n 90 0 rfl rfl dX11_coast_89 rfl ?_
            refine V_callV (K' := 0) (S' := 0) 93 69 11 1 [.int (nI (wcF t z p))] mkX11_isFull lkX11_233 (by decide) rfl rfl (by decide) rfl (Nat.le_of_ble_eq_true rfl) (Nat.le_of_ble_eq_true rfl) (Nat.le_of_ble_eq_true rfl) (Nat.le_of_ble_eq_true rfl) rfl rfl dX11_coast_90 rfl (c_X11_isFull hN hWp hs2 (fun q => absurd q hf) (fun q => ?_))
            refine Kq_i (k' := 0) (sl' := 0) rfl rfl ?_
            refine V_if_eq 105 96 rfl dX11_coast_93 rfl (fun c93 => ?_) (fun c93 => absurd c93 (by decide))
            refine V_aload_n 106 2 rfl _ rfl rfl dX11_coast_105 rfl ?_
            refine V_callV (K' := 0) (S' := 0) 109 69 11 0 [] mkX11_fine lkX11_152 (by decide) rfl rfl (by decide) rfl (Nat.le_of_ble_eq_true rfl) (Nat.le_of_ble_eq_true rfl) (Nat.le_of_ble_eq_true rfl) (Nat.le_of_ble_eq_true rfl) rfl rfl dX11_coast_106 rfl (c_X11_fine (fun _ => ?_) (fun e => absurd rfl e))
            refine Kq_i (k' := 0) (sl' := 0) rfl rfl ?_
            refine V_if_ne 115 112 rfl dX11_coast_109 rfl (fun c109 => ?_) (fun c109 => absurd c109 (by decide))
            refine V_aload_n 116 2 rfl _ rfl rfl dX11_coast_115 rfl ?_
            refine V_callV (K' := 0) (S' := 0) 119 69 11 0 [] mkX11_pass lkX11_236 (by decide) rfl rfl (by decide) rfl (Nat.le_of_ble_eq_true rfl) (Nat.le_of_ble_eq_true rfl) (Nat.le_of_ble_eq_true rfl) (Nat.le_of_ble_eq_true rfl) rfl rfl dX11_coast_116 rfl (c_X11_pass hRM hT1 hs2 ?_)
            rw [ew]
            refine Kq_v (k' := 0) (sl' := 0) rfl rfl ?_
            refine V_aload_n 120 2 rfl _ rfl rfl dX11_coast_119 rfl ?_
            refine V_iload_n 121 0 rfl rfl dX11_coast_120 rfl ?_
            refine V_callV (K' := 0) (S' := 0) 124 69 11 1 [.int (nI (wcF t z p))] mkX11_readRow lkX11_239 (by decide) rfl rfl (by decide) rfl (Nat.le_of_ble_eq_true rfl) (Nat.le_of_ble_eq_true rfl) (Nat.le_of_ble_eq_true rfl) (Nat.le_of_ble_eq_true rfl) rfl rfl dX11_coast_121 rfl (c_X11_readRow hRM hT1 hN hWp hs2 hr (fun q => Nat.lt_of_le_of_ne hWp.1.1 (fun q2 => hf (Or.inl ⟨q, q2⟩))) (fun q => Nat.lt_of_le_of_ne hWp.1.2.1 (fun q2 => hf (Or.inr (Or.inl ⟨q, q2⟩)))) (fun q => Nat.lt_of_le_of_ne hWp.1.2.2.1 (fun q2 => hf (Or.inr (Or.inr ⟨q, q2⟩)))) (fun K2 p2 I2 a2 e2 hN2 hx2 ha2 es2 => ?_) (fun k2 q2 I2 a2 e2 hk2 hk3 hq2 hx2 ha2 => ?_))
            · refine Kq_v (k' := 0) (sl' := 0) rfl rfl ?_
              have hT2 := (hx.tr hx2).T hT
              refine V_aload_n 125 2 rfl _ rfl rfl dX11_coast_124 rfl ?_
              refine V_bipush 127 (59) rfl dX11_coast_125 rfl ?_
              refine V_callV (K' := 0) (S' := 0) 130 69 11 1 [.int 59] mkX11_sign lkX11_242 (by decide) rfl rfl (by decide) rfl (Nat.le_of_ble_eq_true rfl) (Nat.le_of_ble_eq_true rfl) (Nat.le_of_ble_eq_true rfl) (Nat.le_of_ble_eq_true rfl) rfl rfl dX11_coast_127 rfl (c_X11_sign (c := 59) hRM hT2 (by decide) (by decide) ha2 (fun e => absurd rfl e) (fun _ z127 s127 => ?_) (fun _ e127 => ?_))
              · refine Kq_v (k' := 0) (sl' := 0) rfl rfl ?_
                have e127 : pSig t z 59 (sk t z a2) = .inr (sk t z (sk t z a2 + 1)) := sig_ok z127 s127 (by decide) (by decide)
                refine V_iinc 133 1 rfl (nI (n + 1)) [(2, .int (nI (n + 1))), (3, .int (nI (wcF t z p))), (0, rf G 69)] (nI_1 _) (by decide) rfl dX11_coast_130 rfl ?_
                refine V_goto 44 rfl dX11_coast_133 ?_
                exact V_lv [0, 2] rfl (ih (n + 1) K2 (sk t z a2 + 1) I2 (by omega) (by omega) (Nat.succ_le_of_lt z127) hN2 (pCl_W hWp e2).1 (hx.tr hx2) (eq.trans (bd_ok (pCs_ok e2 (by rw [← es2]; exact e127)))))
              · refine Kq_v (k' := 0) (sl' := 0) rfl rfl ?_
                have nb127 : ¬ nI (sk t z a2) = -1 := nI_ne (by first | omega | exact Nat.lt_of_le_of_lt (sk_z (t := t) ha2).2.1 (by omega))
                refine V_iinc 133 1 rfl (nI (n + 1)) [(2, .int (nI (n + 1))), (3, .int (nI (wcF t z p))), (0, rf G 69)] (nI_1 _) (by decide) rfl dX11_coast_130 rfl ?_
                refine V_goto 44 rfl dX11_coast_133 ?_
                refine V_aload_n 45 2 rfl _ rfl rfl dX11_coast_44 rfl ?_
                refine V_callV (K' := 0) (S' := 0) 48 69 11 0 [] mkX11_fine lkX11_152 (by decide) rfl rfl (by decide) rfl (Nat.le_of_ble_eq_true rfl) (Nat.le_of_ble_eq_true rfl) (Nat.le_of_ble_eq_true rfl) (Nat.le_of_ble_eq_true rfl) rfl rfl dX11_coast_45 rfl (c_X11_fine (fun e => absurd e nb127) (fun _ => ?_))
                refine Kq_i (k' := 0) (sl' := 0) rfl rfl ?_
                refine V_if_eq 136 51 rfl dX11_coast_48 rfl (fun c48 => ?_) (fun c48 => absurd c48 (by decide))
                exact V_lv [2] rfl (hb 1 (sk t z a2) I2 (sk t z a2) (eq.trans (bd_no (pCs_n2 e2 (by rw [← es2]; exact e127)))) (by decide) (by decide) (sk_z ha2).2.1 (hx.tr hx2) (sk_z ha2).2.1)
            · refine Kq_v (k' := 0) (sl' := 0) rfl rfl ?_
              have hT2 := (hx.tr hx2).T hT
              refine V_aload_n 125 2 rfl _ rfl rfl dX11_coast_124 rfl ?_
              refine V_bipush 127 (59) rfl dX11_coast_125 rfl ?_
              refine V_callV (K' := 0) (S' := 0) 130 69 11 1 [.int 59] mkX11_sign lkX11_242 (by decide) rfl rfl (by decide) rfl (Nat.le_of_ble_eq_true rfl) (Nat.le_of_ble_eq_true rfl) (Nat.le_of_ble_eq_true rfl) (Nat.le_of_ble_eq_true rfl) rfl rfl dX11_coast_127 rfl (c_X11_sign (c := 59) hRM hT2 (by decide) (by decide) ha2 (fun _ => ?_) (fun e _ _ => absurd e (nI_ne (by omega))) (fun e _ => absurd e (nI_ne (by omega))))
              refine Kq_v (k' := 0) (sl' := 0) rfl rfl ?_
              refine V_iinc 133 1 rfl (nI (n + 1)) [(2, .int (nI (n + 1))), (3, .int (nI (wcF t z p))), (0, rf G 69)] (nI_1 _) (by decide) rfl dX11_coast_130 rfl ?_
              refine V_goto 44 rfl dX11_coast_133 ?_
              refine V_aload_n 45 2 rfl _ rfl rfl dX11_coast_44 rfl ?_
              refine V_callV (K' := 0) (S' := 0) 48 69 11 0 [] mkX11_fine lkX11_152 (by decide) rfl rfl (by decide) rfl (Nat.le_of_ble_eq_true rfl) (Nat.le_of_ble_eq_true rfl) (Nat.le_of_ble_eq_true rfl) (Nat.le_of_ble_eq_true rfl) rfl rfl dX11_coast_45 rfl (c_X11_fine (fun e => absurd e (nI_ne (by omega))) (fun _ => ?_))
              refine Kq_i (k' := 0) (sl' := 0) rfl rfl ?_
              refine V_if_eq 136 51 rfl dX11_coast_48 rfl (fun c48 => ?_) (fun c48 => absurd c48 (by decide))
              exact V_lv [2] rfl (hb k2 q2 I2 a2 (eq.trans (bd_no (pCs_n1 e2))) hk2 hk3 hq2 (hx.tr hx2) ha2)
        · rw [if_neg c60] at eq
          have e60 : n = 60 := by omega
          subst e60
          refine V_aload_n 45 1 rfl _ rfl rfl dX11_coast_44 rfl ?_
          refine V_callV (K' := 0) (S' := 0) 48 69 11 0 [] mkX11_fine lkX11_152 (by decide) rfl rfl (by decide) rfl (Nat.le_of_ble_eq_true rfl) (Nat.le_of_ble_eq_true rfl) (Nat.le_of_ble_eq_true rfl) (Nat.le_of_ble_eq_true rfl) rfl rfl dX11_coast_45 rfl (c_X11_fine (fun _ => ?_) (fun e => absurd rfl e))
          refine Kq_i (k' := 0) (sl' := 0) rfl rfl ?_
          refine V_if_eq 136 51 rfl dX11_coast_48 rfl (fun c48 => absurd c48 (by decide)) (fun c48 => ?_)
          refine V_aload_n 52 1 rfl _ rfl rfl dX11_coast_51 rfl ?_
          refine V_callV (K' := 0) (S' := 0) 55 69 11 0 [] mkX11_isMore lkX11_224 (by decide) rfl rfl (by decide) rfl (Nat.le_of_ble_eq_true rfl) (Nat.le_of_ble_eq_true rfl) (Nat.le_of_ble_eq_true rfl) (Nat.le_of_ble_eq_true rfl) rfl rfl dX11_coast_52 rfl (c_X11_isMore hRM hT1 ha (fun q => ?_) (fun q => absurd (show p < z by omega) (fun q2 => q (by rw [← ep]; exact q2))))
          rw [← ep]
          refine Kq_i (k' := 0) (sl' := 0) rfl rfl ?_
          refine V_if_eq 136 58 rfl dX11_coast_55 rfl (fun c55 => absurd c55 (by decide)) (fun c55 => ?_)
          refine V_aload_n 59 1 rfl _ rfl rfl dX11_coast_58 rfl ?_
          refine V_callV (K' := 0) (S' := 0) 62 69 11 0 [] mkX11_word lkX11_227 (by decide) rfl rfl (by decide) rfl (Nat.le_of_ble_eq_true rfl) (Nat.le_of_ble_eq_true rfl) (Nat.le_of_ble_eq_true rfl) (Nat.le_of_ble_eq_true rfl) rfl rfl dX11_coast_59 rfl (c_X11_word hRM hT1 hs2 ?_)
          rw [esk]
          refine Kq_i (k' := 0) (sl' := 0) rfl rfl ?_
          refine V_istore_n 63 [(3, .int (nI (wcF t z p))), (2, .int (nI 60)), (0, rf G 69)] (by decide) rfl rfl dX11_coast_62 rfl ?_
          refine V_iload_n 64 0 rfl rfl dX11_coast_63 rfl ?_
          refine V_callS (K' := 0) (S' := 0) 67 1 [.int (nI (wcF t z p))] mkX11_isRow lkX11_230 rfl (Nat.le_of_ble_eq_true rfl) (Nat.le_of_ble_eq_true rfl) (Nat.le_of_ble_eq_true rfl) (Nat.le_of_ble_eq_true rfl) rfl rfl dX11_coast_64 rfl (c_X11_isRow hs2 (fun q => ?_) (fun q => absurd hr q))
          refine Kq_i (k' := 0) (sl' := 0) rfl rfl ?_
          refine V_if_ne 82 70 rfl dX11_coast_67 rfl (fun c67 => ?_) (fun c67 => absurd c67 (by decide))
          refine V_iload_n 83 1 rfl rfl dX11_coast_82 rfl ?_
          refine V_bipush 85 (60) rfl dX11_coast_83 rfl ?_
          refine V_icmp_eq 96 88 rfl dX11_coast_85 rfl (fun c85 => ?_) (fun c85 => absurd rfl c85)
          refine V_aload_n 97 2 rfl _ rfl rfl dX11_coast_96 rfl ?_
          refine V_iconst 98 (3) rfl dX11_coast_97 rfl ?_
          refine V_aload_n 99 2 rfl _ rfl rfl dX11_coast_98 rfl ?_
          refine V_getI 102 69 11 4 (nI p) rfl flX11_129 rfl rfl rfl (by decide) dX11_coast_99 rfl ?_
          refine V_callV (K' := 0) (S' := 0) 105 69 11 2 [.int 3, .int (nI p)] mkX11_wrong lkX11_159 (by decide) rfl rfl (by decide) rfl (Nat.le_of_ble_eq_true rfl) (Nat.le_of_ble_eq_true rfl) (Nat.le_of_ble_eq_true rfl) (Nat.le_of_ble_eq_true rfl) rfl rfl dX11_coast_102 rfl (c_X11_wrong (kd := 3) (q := p) (fun e => absurd rfl e) (fun _ => ?_))
          refine Kq_v (k' := 0) (sl' := 0) rfl rfl ?_
          refine V_aload_n 106 2 rfl _ rfl rfl dX11_coast_105 rfl ?_
          refine V_callV (K' := 0) (S' := 0) 109 69 11 0 [] mkX11_fine lkX11_152 (by decide) rfl rfl (by decide) rfl (Nat.le_of_ble_eq_true rfl) (Nat.le_of_ble_eq_true rfl) (Nat.le_of_ble_eq_true rfl) (Nat.le_of_ble_eq_true rfl) rfl rfl dX11_coast_106 rfl (c_X11_fine (fun e => absurd e (nI_ne (by omega))) (fun _ => ?_))
          refine Kq_i (k' := 0) (sl' := 0) rfl rfl ?_
          refine V_if_ne 115 112 rfl dX11_coast_109 rfl (fun c109 => absurd c109 (by decide)) (fun c109 => ?_)
          refine V_goto 136 rfl dX11_coast_112 ?_
          exact V_lv [2] rfl (hb _ _ I1 p (eq.trans (bd_no (pCs_n1 (pCl_fl hr (Or.inl rfl))))) (by decide) (by decide) hs2 hx hs2)
      · refine V_aload_n 45 1 rfl _ rfl rfl dX11_coast_44 rfl ?_
        refine V_callV (K' := 0) (S' := 0) 48 69 11 0 [] mkX11_fine lkX11_152 (by decide) rfl rfl (by decide) rfl (Nat.le_of_ble_eq_true rfl) (Nat.le_of_ble_eq_true rfl) (Nat.le_of_ble_eq_true rfl) (Nat.le_of_ble_eq_true rfl) rfl rfl dX11_coast_45 rfl (c_X11_fine (fun _ => ?_) (fun e => absurd rfl e))
        refine Kq_i (k' := 0) (sl' := 0) rfl rfl ?_
        refine V_if_eq 136 51 rfl dX11_coast_48 rfl (fun c48 => absurd c48 (by decide)) (fun c48 => ?_)
        refine V_aload_n 52 1 rfl _ rfl rfl dX11_coast_51 rfl ?_
        refine V_callV (K' := 0) (S' := 0) 55 69 11 0 [] mkX11_isMore lkX11_224 (by decide) rfl rfl (by decide) rfl (Nat.le_of_ble_eq_true rfl) (Nat.le_of_ble_eq_true rfl) (Nat.le_of_ble_eq_true rfl) (Nat.le_of_ble_eq_true rfl) rfl rfl dX11_coast_52 rfl (c_X11_isMore hRM hT1 ha (fun q => ?_) (fun q => absurd (show p < z by omega) (fun q2 => q (by rw [← ep]; exact q2))))
        rw [← ep]
        refine Kq_i (k' := 0) (sl' := 0) rfl rfl ?_
        refine V_if_eq 136 58 rfl dX11_coast_55 rfl (fun c55 => absurd c55 (by decide)) (fun c55 => ?_)
        refine V_aload_n 59 1 rfl _ rfl rfl dX11_coast_58 rfl ?_
        refine V_callV (K' := 0) (S' := 0) 62 69 11 0 [] mkX11_word lkX11_227 (by decide) rfl rfl (by decide) rfl (Nat.le_of_ble_eq_true rfl) (Nat.le_of_ble_eq_true rfl) (Nat.le_of_ble_eq_true rfl) (Nat.le_of_ble_eq_true rfl) rfl rfl dX11_coast_59 rfl (c_X11_word hRM hT1 hs2 ?_)
        rw [esk]
        refine Kq_i (k' := 0) (sl' := 0) rfl rfl ?_
        refine V_istore_n 63 [(3, .int (nI (wcF t z p))), (2, .int (nI n)), (0, rf G 69)] (by decide) rfl rfl dX11_coast_62 rfl ?_
        refine V_iload_n 64 0 rfl rfl dX11_coast_63 rfl ?_
        refine V_callS (K' := 0) (S' := 0) 67 1 [.int (nI (wcF t z p))] mkX11_isRow lkX11_230 rfl (Nat.le_of_ble_eq_true rfl) (Nat.le_of_ble_eq_true rfl) (Nat.le_of_ble_eq_true rfl) (Nat.le_of_ble_eq_true rfl) rfl rfl dX11_coast_64 rfl (c_X11_isRow hs2 (fun q => absurd q hr) (fun q => ?_))
        refine Kq_i (k' := 0) (sl' := 0) rfl rfl ?_
        refine V_if_ne 82 70 rfl dX11_coast_67 rfl (fun c67 => absurd c67 (by decide)) (fun c67 => ?_)
        refine V_aload_n 71 2 rfl _ rfl rfl dX11_coast_70 rfl ?_
        refine V_iconst 72 (1) rfl dX11_coast_71 rfl ?_
        refine V_aload_n 73 2 rfl _ rfl rfl dX11_coast_72 rfl ?_
        refine V_getI 76 69 11 4 (nI p) rfl flX11_129 rfl rfl rfl (by decide) dX11_coast_73 rfl ?_
        refine V_callV (K' := 0) (S' := 0) 79 69 11 2 [.int 1, .int (nI p)] mkX11_wrong lkX11_159 (by decide) rfl rfl (by decide) rfl (Nat.le_of_ble_eq_true rfl) (Nat.le_of_ble_eq_true rfl) (Nat.le_of_ble_eq_true rfl) (Nat.le_of_ble_eq_true rfl) rfl rfl dX11_coast_76 rfl (c_X11_wrong (kd := 1) (q := p) (fun e => absurd rfl e) (fun _ => ?_))
        refine Kq_v (k' := 0) (sl' := 0) rfl rfl ?_
        refine V_goto 105 rfl dX11_coast_79 ?_
        refine V_aload_n 106 2 rfl _ rfl rfl dX11_coast_105 rfl ?_
        refine V_callV (K' := 0) (S' := 0) 109 69 11 0 [] mkX11_fine lkX11_152 (by decide) rfl rfl (by decide) rfl (Nat.le_of_ble_eq_true rfl) (Nat.le_of_ble_eq_true rfl) (Nat.le_of_ble_eq_true rfl) (Nat.le_of_ble_eq_true rfl) rfl rfl dX11_coast_106 rfl (c_X11_fine (fun e => absurd e (nI_ne (by omega))) (fun _ => ?_))
        refine Kq_i (k' := 0) (sl' := 0) rfl rfl ?_
        refine V_if_ne 115 112 rfl dX11_coast_109 rfl (fun c109 => absurd c109 (by decide)) (fun c109 => ?_)
        refine V_goto 136 rfl dX11_coast_112 ?_
        exact V_lv [2] rfl (hb _ _ I1 p (eq.trans (bd_no (pCs_n1 (pCl_nr hr)))) (by decide) (by decide) hs2 hx hs2)
