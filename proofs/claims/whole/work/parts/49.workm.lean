/-! ===== WORK's text, as the reference reads it ===== -/
def MtM (I : FI) (i : Nat) (s : Nat × Nat × Nat × Nat) : Prop := I 86 (3 * i) = nI s.1 ∧ I 86 (3 * i + 1) = nI s.2.1 ∧ I 86 (3 * i + 2) = if s.1 = 7 then nI (3 * s.2.2.2) else nI s.2.2.1
def StM (I : FI) (n n' : Nat) (S : SR) : Prop := ∀ i, n ≤ i → i < n' → MtM I i (S i)
def EM (I I' : FI) (n : Nat) : Prop := ∀ j, j < 3 * n → I' 86 j = I 86 j
def FrV (I I' : FI) : Prop := (∀ a, a ≠ 69 → a ≠ 86 → I' a = I a) ∧ ∀ j, j ≠ 34 → I' 69 j = I 69 j
theorem FrV.rf {I : FI} : FrV I I := ⟨fun _ _ _ => rfl, fun _ _ => rfl⟩
theorem FrV.tr {I I1 I2 : FI} (h : FrV I I1) (h2 : FrV I1 I2) : FrV I I2 := ⟨fun a q1 q2 => (h2.1 a q1 q2).trans (h.1 a q1 q2), fun j q => (h2.2 j q).trans (h.2 j q)⟩
theorem FrV.T {I I' : FI} {t : Nat → Nat} {z : Nat} (h : FrV I I') (hT : TxM I t z) : TxM I' t z := hT.fr (h.2 3 (by decide)) (h.1 71 (by decide) (by decide))
theorem FrV.C {I I' : FI} {K : CO} (h : FrV I I') (hK : CoastM I K) : CoastM I' K := hK.fr (h.2 21 (by decide)) (h.2 22 (by decide)) (h.2 23 (by decide)) (fun a q1 q2 => h.1 a (by omega) (by omega))
theorem FrV.u {I I' : FI} {j : Nat} {v : Int32} (h : FrV I I') : FrV I (up2 I' 86 j v) := ⟨fun a q1 q2 => by rw [up2_n _ _ _ q2]; exact h.1 a q1 q2, fun j q => by rw [up2_n _ _ _ (by decide)]; exact h.2 j q⟩
theorem EM.rf {I : FI} {n : Nat} : EM I I n := fun _ _ => rfl
theorem EM.tr {I I1 I2 : FI} {n n1 : Nat} (h : EM I I1 n) (h2 : EM I1 I2 n1) (hn : n ≤ n1) : EM I I2 n := fun j hj => (h2 j (by omega)).trans (h j hj)
theorem MtM.cg {I I' : FI} {i n : Nat} {s : Nat × Nat × Nat × Nat} (h : MtM I i s) (e : EM I I' n) (hi : i < n) : MtM I' i s := by
  unfold MtM; rw [e _ (by omega), e _ (by omega), e _ (by omega)]; exact h
theorem StM.join {I1 I2 : FI} {n n1 n2 : Nat} {S1 S2 : SR} (h1 : StM I1 n n1 S1) (h2 : StM I2 n1 n2 S2) (hE : EM I1 I2 n1) (hS : ∀ i, i < n1 → S2 i = S1 i) : StM I2 n n2 S2 := fun i a b => by
  by_cases c : i < n1
  · rw [hS i c]; exact (h1 i a c).cg hE c
  · exact h2 i (by omega) b
def tsI (I : FI) (n : Nat) (x y w : Int32) : FI := up2 (up2 (up2 (up2 I 86 (3 * n) x) 86 (3 * n + 1) y) 86 (3 * n + 2) w) 69 34 (nI (3 * n + 3))
theorem ts_fr {I : FI} {n : Nat} {x y w : Int32} : FrV I (tsI I n x y w) := by
  refine ⟨fun a q1 q2 => ?_, fun j q => ?_⟩
  · unfold tsI; rw [up2_n _ _ _ q1, up2_n _ _ _ q2, up2_n _ _ _ q2, up2_n _ _ _ q2]
  · unfold tsI; rw [up2_s, upd_n q, up2_n _ _ _ (by decide), up2_n _ _ _ (by decide), up2_n _ _ _ (by decide)]
theorem ts_34 {I : FI} {n : Nat} {x y w : Int32} : tsI I n x y w 69 34 = nI (3 * (n + 1)) := by unfold tsI; rw [up2_s, upd_s]; congr 1
theorem ts_86 {I : FI} {n : Nat} {x y w : Int32} : tsI I n x y w 86 = upd (upd (upd (I 86) (3 * n) x) (3 * n + 1) y) (3 * n + 2) w := by unfold tsI; rw [up2_n _ _ _ (by decide), up2_s, up2_s, up2_s]
theorem ts_E {I : FI} {n : Nat} {x y w : Int32} : EM I (tsI I n x y w) n := fun j hj => by rw [ts_86, upd_n (by omega), upd_n (by omega), upd_n (by omega)]
theorem ts_M {I : FI} {n k a b e : Nat} (hk : k ≠ 7) : MtM (tsI I n (nI k) (nI a) (nI b)) n (k, a, b, e) := by
  unfold MtM
  rw [ts_86, if_neg hk]
  exact ⟨by rw [upd_n (by omega), upd_n (by omega), upd_s], by rw [upd_n (by omega), upd_s], upd_s⟩
theorem lx_ts {I : FI} {a n : Nat} {b k x y w : Int32} : tsI (lx I a b k) n x y w = lx (tsI I n x y w) a b k := by
  unfold tsI
  rw [lx_up (fun h => absurd h (by decide)), lx_up (fun h => absurd h (by decide)), lx_up (fun h => absurd h (by decide)), lx_up (fun _ => by decide)]
theorem ox_ts {I : FI} {o n : Nat} {x y w : Int32} : tsI (ox I o) n x y w = ox (tsI I n x y w) o := by
  unfold tsI
  rw [ox_up (fun h => absurd h (by decide)), ox_up (fun h => absurd h (by decide)), ox_up (fun h => absurd h (by decide)), ox_up (fun _ => by decide)]
theorem kw_some {t : Nat → Nat} {z p k : Nat} (h : kwF t z p = some k) : wcF t z p = ocF (15 + k) ∧ k ≤ 7 := by
  unfold kwF at h
  by_cases c0 : wcF t z p = ocF 15
  · rw [if_pos c0] at h
    cases h
    exact ⟨c0, by decide⟩
  by_cases c1 : wcF t z p = ocF 16
  · rw [if_neg c0, if_pos c1] at h
    cases h
    exact ⟨c1, by decide⟩
  by_cases c2 : wcF t z p = ocF 17
  · rw [if_neg c0, if_neg c1, if_pos c2] at h
    cases h
    exact ⟨c2, by decide⟩
  by_cases c3 : wcF t z p = ocF 18
  · rw [if_neg c0, if_neg c1, if_neg c2, if_pos c3] at h
    cases h
    exact ⟨c3, by decide⟩
  by_cases c4 : wcF t z p = ocF 19
  · rw [if_neg c0, if_neg c1, if_neg c2, if_neg c3, if_pos c4] at h
    cases h
    exact ⟨c4, by decide⟩
  by_cases c5 : wcF t z p = ocF 20
  · rw [if_neg c0, if_neg c1, if_neg c2, if_neg c3, if_neg c4, if_pos c5] at h
    cases h
    exact ⟨c5, by decide⟩
  by_cases c6 : wcF t z p = ocF 21
  · rw [if_neg c0, if_neg c1, if_neg c2, if_neg c3, if_neg c4, if_neg c5, if_pos c6] at h
    cases h
    exact ⟨c6, by decide⟩
  by_cases c7 : wcF t z p = ocF 22
  · rw [if_neg c0, if_neg c1, if_neg c2, if_neg c3, if_neg c4, if_neg c5, if_neg c6, if_pos c7] at h
    cases h
    exact ⟨c7, by decide⟩
  rw [if_neg c0, if_neg c1, if_neg c2, if_neg c3, if_neg c4, if_neg c5, if_neg c6, if_neg c7] at h
  cases h
theorem kw_none {t : Nat → Nat} {z p : Nat} (h : kwF t z p = none) : ∀ k, k ≤ 7 → ¬ wcF t z p = ocF (15 + k) := by
  unfold kwF at h
  intro k hk e
  by_cases c0 : wcF t z p = ocF 15
  · rw [if_pos c0] at h
    cases h
  by_cases c1 : wcF t z p = ocF 16
  · rw [if_neg c0, if_pos c1] at h
    cases h
  by_cases c2 : wcF t z p = ocF 17
  · rw [if_neg c0, if_neg c1, if_pos c2] at h
    cases h
  by_cases c3 : wcF t z p = ocF 18
  · rw [if_neg c0, if_neg c1, if_neg c2, if_pos c3] at h
    cases h
  by_cases c4 : wcF t z p = ocF 19
  · rw [if_neg c0, if_neg c1, if_neg c2, if_neg c3, if_pos c4] at h
    cases h
  by_cases c5 : wcF t z p = ocF 20
  · rw [if_neg c0, if_neg c1, if_neg c2, if_neg c3, if_neg c4, if_pos c5] at h
    cases h
  by_cases c6 : wcF t z p = ocF 21
  · rw [if_neg c0, if_neg c1, if_neg c2, if_neg c3, if_neg c4, if_neg c5, if_pos c6] at h
    cases h
  by_cases c7 : wcF t z p = ocF 22
  · rw [if_neg c0, if_neg c1, if_neg c2, if_neg c3, if_neg c4, if_neg c5, if_neg c6, if_pos c7] at h
    cases h
  rcases (show k = 0 ∨ k = 1 ∨ k = 2 ∨ k = 3 ∨ k = 4 ∨ k = 5 ∨ k = 6 ∨ k = 7 by omega) with rfl | rfl | rfl | rfl | rfl | rfl | rfl | rfl
  · exact c0 e
  · exact c1 e
  · exact c2 e
  · exact c3 e
  · exact c4 e
  · exact c5 e
  · exact c6 e
  · exact c7 e
theorem oc_w : ocF 37 = ocF 21 ∧ ocF 38 = ocF 15 ∧ ocF 39 = ocF 17 ∧ ocF 40 = ocF 16 ∧ ocF 41 = ocF 18 ∧ ocF 42 = ocF 20 ∧ ocF 43 = ocF 19 ∧ ocF 44 = ocF 22 := by decide +kernel
set_option maxHeartbeats 4000000 in
theorem c_X11_tellsStep {G : Gx} {d : Nat} {I : FI} {R : FR} {J : FJ} {Q : Po} (hRM : ∀ k, R 69 k = refM k) {o a n : Nat} {k x y w : Int32} (hn : I 69 34 = nI (3 * n)) (h50 : n < 50) (hq : Q (.inl none) 103 (lx (ox (tsI I n x y w) o) a (-1) k) R J) : Cc G mX11_tellsStep (d + 1) 0 0 [rf G 69, .int x, .int y, .int w] 103 (lx (ox I o) a (-1) k) R J Q := by
  rw [← ox_ts, ← lx_ts] at hq
  show V _ _ _ _ _ _ _ _ [(0, rf G 69), (1, .int x), (2, .int y), (3, .int w)] [] _ _ _ _ _
  refine V_aload_n 1 0 rfl _ rfl rfl dX11_tellsStep_0 rfl ?_
  refine V_callV (K' := 0) (S' := 0) 4 69 11 0 [] mkX11_fine lkX11_152 (by decide) rfl rfl (by decide) rfl (Nat.le_of_ble_eq_true rfl) (Nat.le_of_ble_eq_true rfl) (Nat.le_of_ble_eq_true rfl) (Nat.le_of_ble_eq_true rfl) rfl rfl dX11_tellsStep_1 rfl (c_X11_fine (fun _ => ?_) (fun e => absurd rfl e))
  refine Kq_i (k' := 0) (sl' := 0) rfl rfl ?_
  refine V_if_ne 8 7 rfl dX11_tellsStep_4 rfl (fun c4 => ?_) (fun c4 => absurd c4 (by decide))
  refine V_aload_n 9 0 rfl _ rfl rfl dX11_tellsStep_8 rfl ?_
  refine V_getR 12 69 11 32 86 (hRM 32) flX11_65 rfl rfl rfl (by decide) dX11_tellsStep_9 rfl ?_
  refine V_aload_n 13 0 rfl _ rfl rfl dX11_tellsStep_12 rfl ?_
  refine V_getI 16 69 11 34 (nI (3 * n)) (by rw [lx_69 (by decide) (by decide) (by decide), ox_69 (by decide)]; exact hn) flX11_299 rfl rfl rfl (by decide) dX11_tellsStep_13 rfl ?_
  refine V_iload_n 17 1 rfl rfl dX11_tellsStep_16 rfl ?_
  refine V_iastN 18 86 150 (3 * n) (by omega) (by decide) rfl (by decide) dX11_tellsStep_17 rfl ?_
  refine V_aload_n 19 0 rfl _ rfl rfl dX11_tellsStep_18 rfl ?_
  refine V_getR 22 69 11 32 86 (hRM 32) flX11_65 rfl rfl rfl (by decide) dX11_tellsStep_19 rfl ?_
  refine V_aload_n 23 0 rfl _ rfl rfl dX11_tellsStep_22 rfl ?_
  refine V_getI 26 69 11 34 (nI (3 * n)) (by rw [up2_n _ _ _ (by decide), lx_69 (by decide) (by decide) (by decide), ox_69 (by decide)]; exact hn) flX11_299 rfl rfl rfl (by decide) dX11_tellsStep_23 rfl ?_
  refine V_iconst 27 (1) rfl dX11_tellsStep_26 rfl ?_
  refine V_iadd 28 dX11_tellsStep_27 rfl ?_
  refine V_rw (nI_add (3 * n) 1) ?_
  refine V_iload_n 29 2 rfl rfl dX11_tellsStep_28 rfl ?_
  refine V_iastN 30 86 150 ((3 * n) + 1) (by omega) (by decide) rfl (by decide) dX11_tellsStep_29 rfl ?_
  refine V_aload_n 31 0 rfl _ rfl rfl dX11_tellsStep_30 rfl ?_
  refine V_getR 34 69 11 32 86 (hRM 32) flX11_65 rfl rfl rfl (by decide) dX11_tellsStep_31 rfl ?_
  refine V_aload_n 35 0 rfl _ rfl rfl dX11_tellsStep_34 rfl ?_
  refine V_getI 38 69 11 34 (nI (3 * n)) (by rw [up2_n _ _ _ (by decide), up2_n _ _ _ (by decide), lx_69 (by decide) (by decide) (by decide), ox_69 (by decide)]; exact hn) flX11_299 rfl rfl rfl (by decide) dX11_tellsStep_35 rfl ?_
  refine V_iconst 39 (2) rfl dX11_tellsStep_38 rfl ?_
  refine V_iadd 40 dX11_tellsStep_39 rfl ?_
  refine V_rw (nI_add (3 * n) 2) ?_
  refine V_iload_n 41 3 rfl rfl dX11_tellsStep_40 rfl ?_
  refine V_iastN 42 86 150 ((3 * n) + 2) (by omega) (by decide) rfl (by decide) dX11_tellsStep_41 rfl ?_
  refine V_aload_n 43 0 rfl _ rfl rfl dX11_tellsStep_42 rfl ?_
  refine V_dup 44 rfl dX11_tellsStep_43 rfl ?_
  refine V_getI 47 69 11 34 (nI (3 * n)) (by rw [up2_n _ _ _ (by decide), up2_n _ _ _ (by decide), up2_n _ _ _ (by decide), lx_69 (by decide) (by decide) (by decide), ox_69 (by decide)]; exact hn) flX11_299 rfl rfl rfl (by decide) dX11_tellsStep_44 rfl ?_
  refine V_iconst 48 (3) rfl dX11_tellsStep_47 rfl ?_
  refine V_iadd 49 dX11_tellsStep_48 rfl ?_
  refine V_rw (nI_add (3 * n) 3) ?_
  refine V_putI 52 69 11 34 flX11_299 rfl rfl rfl (by decide) rfl dX11_tellsStep_49 rfl ?_
  refine V_ret_v rfl (Nat.le_of_ble_eq_true rfl) (fun h => absurd h (by decide)) (Nat.le_of_ble_eq_true rfl) (hq) dX11_tellsStep_52
theorem c_X11_tellsStepF {G : Gx} {d : Nat} {I : FI} {R : FR} {J : FJ} {Q : Po} {b : Int32} {a : Nat} {k x y w : Int32} (hb : ¬ b = -1) (hq : Q (.inl none) 103 (lx I a b k) R J) : Cc G mX11_tellsStep (d + 1) 0 0 [rf G 69, .int x, .int y, .int w] 103 (lx I a b k) R J Q := by
  show V _ _ _ _ _ _ _ _ [(0, rf G 69), (1, .int x), (2, .int y), (3, .int w)] [] _ _ _ _ _
  refine V_aload_n 1 0 rfl _ rfl rfl dX11_tellsStep_0 rfl ?_
  refine V_callV (K' := 0) (S' := 0) 4 69 11 0 [] mkX11_fine lkX11_152 (by decide) rfl rfl (by decide) rfl (Nat.le_of_ble_eq_true rfl) (Nat.le_of_ble_eq_true rfl) (Nat.le_of_ble_eq_true rfl) (Nat.le_of_ble_eq_true rfl) rfl rfl dX11_tellsStep_1 rfl (c_X11_fine (fun e => absurd e hb) (fun _ => ?_))
  refine Kq_i (k' := 0) (sl' := 0) rfl rfl ?_
  refine V_if_ne 8 7 rfl dX11_tellsStep_4 rfl (fun c4 => absurd c4 (by decide)) (fun c4 => ?_)
  refine V_ret_v rfl (Nat.le_of_ble_eq_true rfl) (fun h => absurd h (by decide)) (Nat.le_of_ble_eq_true rfl) (hq) dX11_tellsStep_7
def WMt (G : Gx) (D0 o : Nat) (t : Nat → Nat) (z : Nat) (K : CO) (u : Nat → SR → Nat → WR) : Prop := ∀ (d : Nat) (I : FI) (R : FR) (J : FJ) (Q : Po) (a n : Nat) (S : SR) (k : Int32), D0 ≤ d → (∀ k, R 69 k = refM k) → TxM I t z → z ≤ 150 → CoastM I K → WK K → a ≤ z → 5 * n ≤ sk t z a → I 69 34 = nI (3 * n) →
  (∀ n' S' p' I' a', u n S (sk t z a) = .inr ((n', S'), p') → I' 69 34 = nI (3 * n') → StM I' n n' S' → EM I I' n → FrV I I' → a' ≤ z → sk t z a' = p' → Q (.inl none) 103 (lx (ox I' o) a' (-1) k) R J) →
  (∀ kd q I' a', u n S (sk t z a) = .inl (kd, q) → 0 < kd → kd ≤ 3 → q ≤ z → FrV I I' → a' ≤ z → Q (.inl none) 103 (lx (ox I' o) a' (nI q) (nI kd)) R J) →
  Cc G mX11_readStep d 0 0 [rf G 69] 103 (lx (ox I o) a (-1) k) R J Q
theorem againM_E {I I1 : FI} {n : Nat} {x y w v : Int32} (h : EM (tsI I n x y w) I1 (n + 1)) : EM I (up2 I1 86 (3 * n + 2) v) n := fun j hj => by
  rw [up2_s, upd_n (by omega), h j (by omega)]
  exact ts_E j hj
theorem againM_R {I I1 : FI} {n n1 v : Nat} {S S1 : SR} {s : Nat × Nat × Nat × Nat} (hR : StM I1 (n + 1) n1 S1) (h : EM (tsI I n 7 (nI v) 0) I1 (n + 1)) (hS : ∀ i, i < n + 1 → S1 i = upS S n s i) : StM (up2 I1 86 (3 * n + 2) (nI (3 * n1))) n n1 (upS S1 n (7, v, 0, n1)) := by
  intro i h1 h2
  by_cases e : i = n
  · subst e
    rw [upS_s]
    refine ⟨by rw [up2_s, upd_n (by omega), h _ (by omega), ts_86, upd_n (by omega), upd_n (by omega), upd_s]; rfl, by rw [up2_s, upd_n (by omega), h _ (by omega), ts_86, upd_n (by omega), upd_s], by rw [up2_s, upd_s, if_pos rfl]⟩
  · rw [upS_n e]
    obtain ⟨a1, a2, a3⟩ := hR i (by omega) h2
    exact ⟨by rw [up2_s, upd_n (by omega)]; exact a1, by rw [up2_s, upd_n (by omega)]; exact a2, by rw [up2_s, upd_n (by omega)]; exact a3⟩
theorem pLv_z {t : Nat → Nat} {z p : Nat} {K : CO} (h : z ≤ p) : ∀ lev n S, pSs (pLv t z K lev) t z n S p = .inl (1, p) := by
  intro lev n S
  have e0 : wcF t z p = 0 := by unfold wcF; rw [sc_st (fun q => absurd q.1 (by omega)), Nat.sub_self]; rfl
  have en : kwF t z p = none := by unfold kwF; rw [e0]; decide +kernel
  refine pSs_1 ?_
  cases lev <;> (unfold pLv pSt; rw [en])
set_option maxHeartbeats 16000000 in
theorem c_X11_readStep0 {G : Gx} {t : Nat → Nat} {z D0 : Nat} {K : CO}  : WMt G (D0 + 20) (6) t z K (pSs (pSt (fun _ _ p => .inl (3, p)) t z K) t z) := by
  intro d I R J Q a n S k hd hRM hT h150 hK hW ha h5 h34 hk hb
  obtain ⟨m, rfl⟩ : ∃ m, d = m + 20 := ⟨d - 20, by omega⟩
  have h6 := hT.2.1
  have h8 := hW.1
  have hg6 := hW.2.1
  have hm6 := hW.2.2.1
  obtain ⟨hs1, hs2, hs3⟩ := sk_z (t := t) ha
  have esk := sk_sk (t := t) ha
  obtain ⟨p, ep⟩ : ∃ p, p = sk t z a := ⟨_, rfl⟩
  rw [← ep] at h5 hk hb hs1 hs2 esk
  obtain ⟨o37, o38, o39, o40, o41, o42, o43, o44⟩ := oc_w
  have nxe : nx t z p = sk t z (enF t z p) := rfl
  show V _ _ _ _ _ _ _ _ [(0, rf G 69)] [] _ _ _ _ _
  cases ek : kwF t z p with
  | none =>
    have kn := kw_none ek
    have e7 : pSt (fun _ _ p => .inl (3, p)) t z K n S p = .inl (1, p) := by unfold pSt; rw [ek]
    have nb : ¬ nI p = -1 := nI_ne (by omega)
    refine V_aload_n 1 0 rfl _ rfl rfl dX11_readStep_0 rfl ?_
    refine V_callV (K' := 0) (S' := 0) 4 69 11 0 [] mkX11_word lkX11_227 (by decide) rfl rfl (by decide) rfl (Nat.le_of_ble_eq_true rfl) (Nat.le_of_ble_eq_true rfl) (Nat.le_of_ble_eq_true rfl) (Nat.le_of_ble_eq_true rfl) rfl rfl dX11_readStep_1 rfl (c_X11_word hRM (TxM.ox (o := 6) hT) ha ?_)
    rw [← ep]
    refine Kq_i (k' := 0) (sl' := 0) rfl rfl ?_
    refine V_istore_n 5 [(1, .int (nI (wcF t z p))), (0, rf G 69)] (by decide) rfl rfl dX11_readStep_4 rfl ?_
    refine V_iload_n 6 0 rfl rfl dX11_readStep_5 rfl ?_
    refine V_ldcSw 9 37 rfl rfl dX11_readStep_6 rfl ?_
    refine V_callS (K' := 0) (S' := 0) 12 1 [sr G 37] mkX11_of lkX11_204 rfl (Nat.le_of_ble_eq_true rfl) (Nat.le_of_ble_eq_true rfl) (Nat.le_of_ble_eq_true rfl) (Nat.le_of_ble_eq_true rfl) rfl rfl dX11_readStep_9 rfl (c_X11_of (wdo 37 (by decide) (by decide) (by decide)) ?_)
    refine Kq_i (k' := 0) (sl' := 0) rfl rfl ?_
    refine V_icmp_ne 30 15 rfl dX11_readStep_12 rfl (fun c12 => ?_) (fun c12 => absurd ((wN hs2 (wdo 37 (by decide) (by decide) (by decide)) o37).mp c12) (kn 6 (by decide)))
    refine V_iload_n 31 0 rfl rfl dX11_readStep_30 rfl ?_
    refine V_ldcSw 34 38 rfl rfl dX11_readStep_31 rfl ?_
    refine V_callS (K' := 0) (S' := 0) 37 1 [sr G 38] mkX11_of lkX11_204 rfl (Nat.le_of_ble_eq_true rfl) (Nat.le_of_ble_eq_true rfl) (Nat.le_of_ble_eq_true rfl) (Nat.le_of_ble_eq_true rfl) rfl rfl dX11_readStep_34 rfl (c_X11_of (wdo 38 (by decide) (by decide) (by decide)) ?_)
    refine Kq_i (k' := 0) (sl' := 0) rfl rfl ?_
    refine V_icmp_eq 50 40 rfl dX11_readStep_37 rfl (fun c37 => absurd ((wN hs2 (wdo 38 (by decide) (by decide) (by decide)) o38).mp c37) (kn 0 (by decide))) (fun c37 => ?_)
    refine V_iload_n 41 0 rfl rfl dX11_readStep_40 rfl ?_
    refine V_ldcSw 44 39 rfl rfl dX11_readStep_41 rfl ?_
    refine V_callS (K' := 0) (S' := 0) 47 1 [sr G 39] mkX11_of lkX11_204 rfl (Nat.le_of_ble_eq_true rfl) (Nat.le_of_ble_eq_true rfl) (Nat.le_of_ble_eq_true rfl) (Nat.le_of_ble_eq_true rfl) rfl rfl dX11_readStep_44 rfl (c_X11_of (wdo 39 (by decide) (by decide) (by decide)) ?_)
    refine Kq_i (k' := 0) (sl' := 0) rfl rfl ?_
    refine V_icmp_ne 117 50 rfl dX11_readStep_47 rfl (fun c47 => ?_) (fun c47 => absurd ((wN hs2 (wdo 39 (by decide) (by decide) (by decide)) o39).mp c47) (kn 2 (by decide)))
    refine V_iload_n 118 0 rfl rfl dX11_readStep_117 rfl ?_
    refine V_ldcSw 121 40 rfl rfl dX11_readStep_118 rfl ?_
    refine V_callS (K' := 0) (S' := 0) 124 1 [sr G 40] mkX11_of lkX11_204 rfl (Nat.le_of_ble_eq_true rfl) (Nat.le_of_ble_eq_true rfl) (Nat.le_of_ble_eq_true rfl) (Nat.le_of_ble_eq_true rfl) rfl rfl dX11_readStep_121 rfl (c_X11_of (wdo 40 (by decide) (by decide) (by decide)) ?_)
    refine Kq_i (k' := 0) (sl' := 0) rfl rfl ?_
    refine V_icmp_eq 147 127 rfl dX11_readStep_124 rfl (fun c124 => absurd ((wN hs2 (wdo 40 (by decide) (by decide) (by decide)) o40).mp c124) (kn 1 (by decide))) (fun c124 => ?_)
    refine V_iload_n 128 0 rfl rfl dX11_readStep_127 rfl ?_
    refine V_ldcSw 131 41 rfl rfl dX11_readStep_128 rfl ?_
    refine V_callS (K' := 0) (S' := 0) 134 1 [sr G 41] mkX11_of lkX11_204 rfl (Nat.le_of_ble_eq_true rfl) (Nat.le_of_ble_eq_true rfl) (Nat.le_of_ble_eq_true rfl) (Nat.le_of_ble_eq_true rfl) rfl rfl dX11_readStep_131 rfl (c_X11_of (wdo 41 (by decide) (by decide) (by decide)) ?_)
    refine Kq_i (k' := 0) (sl' := 0) rfl rfl ?_
    refine V_icmp_eq 147 137 rfl dX11_readStep_134 rfl (fun c134 => absurd ((wN hs2 (wdo 41 (by decide) (by decide) (by decide)) o41).mp c134) (kn 3 (by decide))) (fun c134 => ?_)
    refine V_iload_n 138 0 rfl rfl dX11_readStep_137 rfl ?_
    refine V_ldcSw 141 42 rfl rfl dX11_readStep_138 rfl ?_
    refine V_callS (K' := 0) (S' := 0) 144 1 [sr G 42] mkX11_of lkX11_204 rfl (Nat.le_of_ble_eq_true rfl) (Nat.le_of_ble_eq_true rfl) (Nat.le_of_ble_eq_true rfl) (Nat.le_of_ble_eq_true rfl) rfl rfl dX11_readStep_141 rfl (c_X11_of (wdo 42 (by decide) (by decide) (by decide)) ?_)
    refine Kq_i (k' := 0) (sl' := 0) rfl rfl ?_
    refine V_icmp_ne 199 147 rfl dX11_readStep_144 rfl (fun c144 => ?_) (fun c144 => absurd ((wN hs2 (wdo 42 (by decide) (by decide) (by decide)) o42).mp c144) (kn 5 (by decide)))
    refine V_iload_n 200 0 rfl rfl dX11_readStep_199 rfl ?_
    refine V_ldcSw 203 43 rfl rfl dX11_readStep_200 rfl ?_
    refine V_callS (K' := 0) (S' := 0) 206 1 [sr G 43] mkX11_of lkX11_204 rfl (Nat.le_of_ble_eq_true rfl) (Nat.le_of_ble_eq_true rfl) (Nat.le_of_ble_eq_true rfl) (Nat.le_of_ble_eq_true rfl) rfl rfl dX11_readStep_203 rfl (c_X11_of (wdo 43 (by decide) (by decide) (by decide)) ?_)
    refine Kq_i (k' := 0) (sl' := 0) rfl rfl ?_
    refine V_icmp_ne 233 209 rfl dX11_readStep_206 rfl (fun c206 => ?_) (fun c206 => absurd ((wN hs2 (wdo 43 (by decide) (by decide) (by decide)) o43).mp c206) (kn 4 (by decide)))
    refine V_iload_n 234 0 rfl rfl dX11_readStep_233 rfl ?_
    refine V_ldcSw 237 44 rfl rfl dX11_readStep_234 rfl ?_
    refine V_callS (K' := 0) (S' := 0) 240 1 [sr G 44] mkX11_of lkX11_204 rfl (Nat.le_of_ble_eq_true rfl) (Nat.le_of_ble_eq_true rfl) (Nat.le_of_ble_eq_true rfl) (Nat.le_of_ble_eq_true rfl) rfl rfl dX11_readStep_237 rfl (c_X11_of (wdo 44 (by decide) (by decide) (by decide)) ?_)
    refine Kq_i (k' := 0) (sl' := 0) rfl rfl ?_
    refine V_icmp_ne 336 243 rfl dX11_readStep_240 rfl (fun c240 => ?_) (fun c240 => absurd ((wN hs2 (wdo 44 (by decide) (by decide) (by decide)) o44).mp c240) (kn 7 (by decide)))
    refine V_aload_n 337 1 rfl _ rfl rfl dX11_readStep_336 rfl ?_
    refine V_iconst 338 (1) rfl dX11_readStep_337 rfl ?_
    refine V_aload_n 339 1 rfl _ rfl rfl dX11_readStep_338 rfl ?_
    refine V_getI 342 69 11 4 (nI p) rfl flX11_129 rfl rfl rfl (by decide) dX11_readStep_339 rfl ?_
    refine V_callV (K' := 0) (S' := 0) 345 69 11 2 [.int 1, .int (nI p)] mkX11_wrong lkX11_159 (by decide) rfl rfl (by decide) rfl (Nat.le_of_ble_eq_true rfl) (Nat.le_of_ble_eq_true rfl) (Nat.le_of_ble_eq_true rfl) (Nat.le_of_ble_eq_true rfl) rfl rfl dX11_readStep_342 rfl (c_X11_wrong (kd := 1) (q := p) (fun e => absurd rfl e) (fun _ => ?_))
    refine Kq_v (k' := 0) (sl' := 0) rfl rfl ?_
    refine V_aload_n 346 1 rfl _ rfl rfl dX11_readStep_345 rfl ?_
    refine V_bipush 348 (59) rfl dX11_readStep_346 rfl ?_
    refine V_callV (K' := 0) (S' := 0) 351 69 11 1 [.int 59] mkX11_sign lkX11_242 (by decide) rfl rfl (by decide) rfl (Nat.le_of_ble_eq_true rfl) (Nat.le_of_ble_eq_true rfl) (Nat.le_of_ble_eq_true rfl) (Nat.le_of_ble_eq_true rfl) rfl rfl dX11_readStep_348 rfl (c_X11_sign (c := 59) hRM (TxM.ox (o := 6) hT) (by decide) (by decide) hs2 (fun _ => ?_) (fun e _ _ => absurd e nb) (fun e _ => absurd e nb))
    refine Kq_v (k' := 0) (sl' := 0) rfl rfl ?_
    refine V_ret_v rfl (Nat.le_of_ble_eq_true rfl) (fun h => absurd h (by decide)) (Nat.le_of_ble_eq_true rfl) (hb 1 p I p (pSs_1 e7) (by decide) (by decide) hs2 FrV.rf hs2) dX11_readStep_351
  | some kk =>
    obtain ⟨k7, hpz, kw, kl⟩ := kw_len hs2 ek
    obtain ⟨ekw, -⟩ := kw_some ek
    have he := (enF_z (t := t) hs2).2.1
    have zz := (sk_z (t := t) he)
    rcases (show kk = 0 ∨ kk = 1 ∨ kk = 2 ∨ kk = 3 ∨ kk = 4 ∨ kk = 5 ∨ kk = 6 ∨ kk = 7 by omega) with rfl | rfl | rfl | rfl | rfl | rfl | rfl | rfl
    · have e7 : pSt (fun _ _ p => .inl (3, p)) t z K n S p = bd (pOps t z K 0 (nx t z p)) (fun x => .inr ((n + 1, upS S n (0, x.1.1, x.1.2, n + 1)), x.2)) := by unfold pSt; rw [ek]; rfl
      refine V_aload_n 1 0 rfl _ rfl rfl dX11_readStep_0 rfl ?_
      refine V_callV (K' := 0) (S' := 0) 4 69 11 0 [] mkX11_word lkX11_227 (by decide) rfl rfl (by decide) rfl (Nat.le_of_ble_eq_true rfl) (Nat.le_of_ble_eq_true rfl) (Nat.le_of_ble_eq_true rfl) (Nat.le_of_ble_eq_true rfl) rfl rfl dX11_readStep_1 rfl (c_X11_word hRM (TxM.ox (o := 6) hT) ha ?_)
      rw [← ep]
      refine Kq_i (k' := 0) (sl' := 0) rfl rfl ?_
      refine V_istore_n 5 [(1, .int (nI (wcF t z p))), (0, rf G 69)] (by decide) rfl rfl dX11_readStep_4 rfl ?_
      refine V_iload_n 6 0 rfl rfl dX11_readStep_5 rfl ?_
      refine V_ldcSw 9 37 rfl rfl dX11_readStep_6 rfl ?_
      refine V_callS (K' := 0) (S' := 0) 12 1 [sr G 37] mkX11_of lkX11_204 rfl (Nat.le_of_ble_eq_true rfl) (Nat.le_of_ble_eq_true rfl) (Nat.le_of_ble_eq_true rfl) (Nat.le_of_ble_eq_true rfl) rfl rfl dX11_readStep_9 rfl (c_X11_of (wdo 37 (by decide) (by decide) (by decide)) ?_)
      refine Kq_i (k' := 0) (sl' := 0) rfl rfl ?_
      refine V_icmp_ne 30 15 rfl dX11_readStep_12 rfl (fun c12 => ?_) (fun c12 => absurd c12 (by rw [ekw]; decide +kernel))
      refine V_iload_n 31 0 rfl rfl dX11_readStep_30 rfl ?_
      refine V_ldcSw 34 38 rfl rfl dX11_readStep_31 rfl ?_
      refine V_callS (K' := 0) (S' := 0) 37 1 [sr G 38] mkX11_of lkX11_204 rfl (Nat.le_of_ble_eq_true rfl) (Nat.le_of_ble_eq_true rfl) (Nat.le_of_ble_eq_true rfl) (Nat.le_of_ble_eq_true rfl) rfl rfl dX11_readStep_34 rfl (c_X11_of (wdo 38 (by decide) (by decide) (by decide)) ?_)
      refine Kq_i (k' := 0) (sl' := 0) rfl rfl ?_
      refine V_icmp_eq 50 40 rfl dX11_readStep_37 rfl (fun c37 => ?_) (fun c37 => absurd (show nI (wcF t z p) = nI (ocF 38) from by rw [ekw, o38]) c37)
      refine V_aload_n 51 1 rfl _ rfl rfl dX11_readStep_50 rfl ?_
      refine V_callV (K' := 0) (S' := 0) 54 69 11 0 [] mkX11_pass lkX11_236 (by decide) rfl rfl (by decide) rfl (Nat.le_of_ble_eq_true rfl) (Nat.le_of_ble_eq_true rfl) (Nat.le_of_ble_eq_true rfl) (Nat.le_of_ble_eq_true rfl) rfl rfl dX11_readStep_51 rfl (c_X11_pass hRM (TxM.ox (o := 6) hT) hs2 ?_)
      rw [kw]
      refine Kq_v (k' := 0) (sl' := 0) rfl rfl ?_
      refine V_aload_n 55 1 rfl _ rfl rfl dX11_readStep_54 rfl ?_
      refine V_iconst 56 (0) rfl dX11_readStep_55 rfl ?_
      refine V_aload_n 57 1 rfl _ rfl rfl dX11_readStep_56 rfl ?_
      refine V_getI 60 69 11 23 (nI (cM K)) (show lx _ _ _ _ 69 23 = _ from by rw [lx_69 (by decide) (by decide) (by decide), ox_69 (by decide)]; exact (hK).2.2.1) flX11_181 rfl rfl rfl (by decide) dX11_readStep_57 rfl ?_
      refine V_iconst 61 (1) rfl dX11_readStep_60 rfl ?_
      refine V_isub 62 dX11_readStep_61 rfl ?_
      refine V_callV (K' := 0) (S' := 0) 65 69 11 2 [.int 0, .int ((nI (cM K)) - 1)] mkX11_readNumber lkX11_212 (by decide) rfl rfl (by decide) rfl (Nat.le_of_ble_eq_true rfl) (Nat.le_of_ble_eq_true rfl) (Nat.le_of_ble_eq_true rfl) (Nat.le_of_ble_eq_true rfl) rfl rfl dX11_readStep_62 rfl (c_X11_readNumber (lo := 0) (cnt := cM K) hRM (TxM.ox (o := 6) hT) (by decide) (by omega) (hh_m1 (cM K) (by omega)) he (fun e => absurd rfl e) (fun v62 _ e62 => ?_) (fun k62 a62 ha62 _ e62 => ?_))
      · refine Kq_i (k' := 0) (sl' := 0) rfl rfl ?_
        obtain ⟨-, -, lo62, hi62, -, -, lt62, hz62⟩ := pNum_ok e62
        refine V_istore_n 66 [(2, .int (nI v62)), (1, .int (nI (wcF t z p))), (0, rf G 69)] (by decide) rfl rfl dX11_readStep_65 rfl ?_
        refine V_aload_n 67 2 rfl _ rfl rfl dX11_readStep_66 rfl ?_
        refine V_iload_n 68 1 rfl rfl dX11_readStep_67 rfl ?_
        refine V_ldcSw 71 38 rfl rfl dX11_readStep_68 rfl ?_
        refine V_callS (K' := 0) (S' := 0) 74 1 [sr G 38] mkX11_of lkX11_204 rfl (Nat.le_of_ble_eq_true rfl) (Nat.le_of_ble_eq_true rfl) (Nat.le_of_ble_eq_true rfl) (Nat.le_of_ble_eq_true rfl) rfl rfl dX11_readStep_71 rfl (c_X11_of (wdo 38 (by decide) (by decide) (by decide)) ?_)
        refine Kq_i (k' := 0) (sl' := 0) rfl rfl ?_
        refine V_icmp_ne 81 77 rfl dX11_readStep_74 rfl (fun c74 => absurd (show nI (wcF t z p) = nI (ocF 38) from by rw [ekw, o38]) c74) (fun c74 => ?_)
        refine V_iconst 78 (0) rfl dX11_readStep_77 rfl ?_
        refine V_goto 82 rfl dX11_readStep_78 ?_
        refine V_iload_n 83 0 rfl rfl dX11_readStep_82 rfl ?_
        refine V_aload_n 84 2 rfl _ rfl rfl dX11_readStep_83 rfl ?_
        refine V_iconst 85 (0) rfl dX11_readStep_84 rfl ?_
        refine V_iload_n 86 1 rfl rfl dX11_readStep_85 rfl ?_
        refine V_ldcSw 89 38 rfl rfl dX11_readStep_86 rfl ?_
        refine V_callS (K' := 0) (S' := 0) 92 1 [sr G 38] mkX11_of lkX11_204 rfl (Nat.le_of_ble_eq_true rfl) (Nat.le_of_ble_eq_true rfl) (Nat.le_of_ble_eq_true rfl) (Nat.le_of_ble_eq_true rfl) rfl rfl dX11_readStep_89 rfl (c_X11_of (wdo 38 (by decide) (by decide) (by decide)) ?_)
        refine Kq_i (k' := 0) (sl' := 0) rfl rfl ?_
        refine V_icmp_ne 102 95 rfl dX11_readStep_92 rfl (fun c92 => absurd (show nI (wcF t z p) = nI (ocF 38) from by rw [ekw, o38]) c92) (fun c92 => ?_)
        refine V_aload_n 96 2 rfl _ rfl rfl dX11_readStep_95 rfl ?_
        refine V_getI 99 69 11 21 (nI (cH K)) (show lx _ _ _ _ 69 21 = _ from by rw [lx_69 (by decide) (by decide) (by decide), ox_69 (by decide)]; exact (hK).1) flX11_175 rfl rfl rfl (by decide) dX11_readStep_96 rfl ?_
        refine V_goto 106 rfl dX11_readStep_99 ?_
        refine V_iconst 107 (1) rfl dX11_readStep_106 rfl ?_
        refine V_isub 108 dX11_readStep_107 rfl ?_
        refine V_callV (K' := 0) (S' := 0) 111 69 11 2 [.int 0, .int ((nI (cH K)) - 1)] mkX11_readNumber lkX11_212 (by decide) rfl rfl (by decide) rfl (Nat.le_of_ble_eq_true rfl) (Nat.le_of_ble_eq_true rfl) (Nat.le_of_ble_eq_true rfl) (Nat.le_of_ble_eq_true rfl) rfl rfl dX11_readStep_108 rfl (c_X11_readNumber (lo := 0) (cnt := cH K) hRM (TxM.ox (o := 6) hT) (by decide) (by omega) (hh_m1 (cH K) (by omega)) (enF_z (sk_z he).2.1).2.1 (fun e => absurd rfl e) (fun v108 _ e108 => ?_) (fun k108 a108 ha108 _ e108 => ?_))
        · refine Kq_i (k' := 0) (sl' := 0) rfl rfl ?_
          obtain ⟨-, -, lo108, hi108, -, -, lt108, hz108⟩ := pNum_ok e108
          refine V_callV (K' := 0) (S' := 0) 114 69 11 3 [.int 0, .int (nI v62), .int (nI v108)] mkX11_tellsStep lkX11_302 (by decide) rfl rfl (by decide) rfl (Nat.le_of_ble_eq_true rfl) (Nat.le_of_ble_eq_true rfl) (Nat.le_of_ble_eq_true rfl) (Nat.le_of_ble_eq_true rfl) rfl rfl dX11_readStep_111 rfl (c_X11_tellsStep (x := nI 0) (y := nI v62) (w := nI v108) hRM h34 (by omega) ?_)
          refine Kq_v (k' := 0) (sl' := 0) rfl rfl ?_
          refine V_goto 345 rfl dX11_readStep_114 ?_
          refine V_aload_n 346 2 rfl _ rfl rfl dX11_readStep_345 rfl ?_
          refine V_bipush 348 (59) rfl dX11_readStep_346 rfl ?_
          refine V_callV (K' := 0) (S' := 0) 351 69 11 1 [.int 59] mkX11_sign lkX11_242 (by decide) rfl rfl (by decide) rfl (Nat.le_of_ble_eq_true rfl) (Nat.le_of_ble_eq_true rfl) (Nat.le_of_ble_eq_true rfl) (Nat.le_of_ble_eq_true rfl) rfl rfl dX11_readStep_348 rfl (c_X11_sign (c := 59) hRM (TxM.ox (o := 6) (ts_fr.T hT)) (by decide) (by decide) (enF_z (sk_z (enF_z (sk_z he).2.1).2.1).2.1).2.1 (fun e => absurd rfl e) (fun _ z348 s348 => ?_) (fun _ e348 => ?_))
          · refine Kq_v (k' := 0) (sl' := 0) rfl rfl ?_
            have e348 : pSig t z 59 (sk t z (enF t z (sk t z (enF t z (sk t z (enF t z p)))))) = .inr (sk t z (sk t z (enF t z (sk t z (enF t z (sk t z (enF t z p))))) + 1)) := sig_ok z348 s348 (by decide) (by decide)
            have lz348 := (pSig_ok e348).2.2.2
            refine V_ret_v rfl (Nat.le_of_ble_eq_true rfl) (fun h => absurd h (by decide)) (Nat.le_of_ble_eq_true rfl) (hk _ _ _ _ _ (pSs_o (e7.trans (bd_ok (show pOps t z K 0 (nx t z p) = .inr ((v62, v108), _) from (if_neg (by decide)).trans ((if_neg (by decide)).trans ((bd_ok e62).trans ((if_pos rfl).trans (bd_ok e108))))))) e348) ts_34 (fun i q1 q2 => by rw [show i = n by omega, upS_s]; exact ts_M (by decide)) ts_E ts_fr (Nat.succ_le_of_lt z348) rfl) dX11_readStep_351
          · refine Kq_v (k' := 0) (sl' := 0) rfl rfl ?_
            have nb348 : ¬ nI (sk t z (enF t z (sk t z (enF t z (sk t z (enF t z p)))))) = -1 := nI_ne (by first | omega | exact Nat.lt_of_le_of_lt (sk_z (t := t) (enF_z (sk_z (enF_z (sk_z he).2.1).2.1).2.1).2.1).2.1 (by omega))
            refine V_ret_v rfl (Nat.le_of_ble_eq_true rfl) (fun h => absurd h (by decide)) (Nat.le_of_ble_eq_true rfl) (hb 1 _ _ _ (pSs_2 (e7.trans (bd_ok (show pOps t z K 0 (nx t z p) = .inr ((v62, v108), _) from (if_neg (by decide)).trans ((if_neg (by decide)).trans ((bd_ok e62).trans ((if_pos rfl).trans (bd_ok e108))))))) e348) (by decide) (by decide) (by first | omega | exact (sk_z (t := t) (by assumption)).2.1) ts_fr (sk_z (enF_z (sk_z (enF_z (sk_z he).2.1).2.1).2.1).2.1).2.1) dX11_readStep_351
        · refine Kq_i (k' := 0) (sl' := 0) rfl rfl ?_
          have kk108 := pNum_k e108
          have nb108 : ¬ nI (sk t z (enF t z (sk t z (enF t z p)))) = -1 := nI_ne (by first | omega | exact Nat.lt_of_le_of_lt (sk_z (t := t) (enF_z (sk_z he).2.1).2.1).2.1 (by omega))
          refine V_callV (K' := 0) (S' := 0) 114 69 11 3 [.int 0, .int (nI v62), .int 0] mkX11_tellsStep lkX11_302 (by decide) rfl rfl (by decide) rfl (Nat.le_of_ble_eq_true rfl) (Nat.le_of_ble_eq_true rfl) (Nat.le_of_ble_eq_true rfl) (Nat.le_of_ble_eq_true rfl) rfl rfl dX11_readStep_111 rfl (c_X11_tellsStepF nb108 ?_)
          refine Kq_v (k' := 0) (sl' := 0) rfl rfl ?_
          refine V_goto 345 rfl dX11_readStep_114 ?_
          refine V_aload_n 346 2 rfl _ rfl rfl dX11_readStep_345 rfl ?_
          refine V_bipush 348 (59) rfl dX11_readStep_346 rfl ?_
          refine V_callV (K' := 0) (S' := 0) 351 69 11 1 [.int 59] mkX11_sign lkX11_242 (by decide) rfl rfl (by decide) rfl (Nat.le_of_ble_eq_true rfl) (Nat.le_of_ble_eq_true rfl) (Nat.le_of_ble_eq_true rfl) (Nat.le_of_ble_eq_true rfl) rfl rfl dX11_readStep_348 rfl (c_X11_sign (c := 59) hRM (TxM.ox (o := 6) hT) (by decide) (by decide) ha108 (fun _ => ?_) (fun e _ _ => absurd e nb108) (fun e _ => absurd e nb108))
          refine Kq_v (k' := 0) (sl' := 0) rfl rfl ?_
          refine V_ret_v rfl (Nat.le_of_ble_eq_true rfl) (fun h => absurd h (by decide)) (Nat.le_of_ble_eq_true rfl) (hb _ _ _ _ (pSs_1 (e7.trans (bd_no (show pOps t z K 0 (nx t z p) = .inl (k108, _) from (if_neg (by decide)).trans ((if_neg (by decide)).trans ((bd_ok e62).trans ((if_pos rfl).trans (bd_no e108)))))))) kk108.1 kk108.2 (by omega) FrV.rf ha108) dX11_readStep_351
      · refine Kq_i (k' := 0) (sl' := 0) rfl rfl ?_
        have kk62 := pNum_k e62
        have nb62 : ¬ nI (sk t z (enF t z p)) = -1 := nI_ne (by first | omega | exact Nat.lt_of_le_of_lt (sk_z (t := t) he).2.1 (by omega))
        refine V_istore_n 66 [(2, .int 0), (1, .int (nI (wcF t z p))), (0, rf G 69)] (by decide) rfl rfl dX11_readStep_65 rfl ?_
        refine V_aload_n 67 2 rfl _ rfl rfl dX11_readStep_66 rfl ?_
        refine V_iload_n 68 1 rfl rfl dX11_readStep_67 rfl ?_
        refine V_ldcSw 71 38 rfl rfl dX11_readStep_68 rfl ?_
        refine V_callS (K' := 0) (S' := 0) 74 1 [sr G 38] mkX11_of lkX11_204 rfl (Nat.le_of_ble_eq_true rfl) (Nat.le_of_ble_eq_true rfl) (Nat.le_of_ble_eq_true rfl) (Nat.le_of_ble_eq_true rfl) rfl rfl dX11_readStep_71 rfl (c_X11_of (wdo 38 (by decide) (by decide) (by decide)) ?_)
        refine Kq_i (k' := 0) (sl' := 0) rfl rfl ?_
        refine V_icmp_ne 81 77 rfl dX11_readStep_74 rfl (fun c74 => absurd (show nI (wcF t z p) = nI (ocF 38) from by rw [ekw, o38]) c74) (fun c74 => ?_)
        refine V_iconst 78 (0) rfl dX11_readStep_77 rfl ?_
        refine V_goto 82 rfl dX11_readStep_78 ?_
        refine V_iload_n 83 0 rfl rfl dX11_readStep_82 rfl ?_
        refine V_aload_n 84 2 rfl _ rfl rfl dX11_readStep_83 rfl ?_
        refine V_iconst 85 (0) rfl dX11_readStep_84 rfl ?_
        refine V_iload_n 86 1 rfl rfl dX11_readStep_85 rfl ?_
        refine V_ldcSw 89 38 rfl rfl dX11_readStep_86 rfl ?_
        refine V_callS (K' := 0) (S' := 0) 92 1 [sr G 38] mkX11_of lkX11_204 rfl (Nat.le_of_ble_eq_true rfl) (Nat.le_of_ble_eq_true rfl) (Nat.le_of_ble_eq_true rfl) (Nat.le_of_ble_eq_true rfl) rfl rfl dX11_readStep_89 rfl (c_X11_of (wdo 38 (by decide) (by decide) (by decide)) ?_)
        refine Kq_i (k' := 0) (sl' := 0) rfl rfl ?_
        refine V_icmp_ne 102 95 rfl dX11_readStep_92 rfl (fun c92 => absurd (show nI (wcF t z p) = nI (ocF 38) from by rw [ekw, o38]) c92) (fun c92 => ?_)
        refine V_aload_n 96 2 rfl _ rfl rfl dX11_readStep_95 rfl ?_
        refine V_getI 99 69 11 21 (nI (cH K)) (show lx _ _ _ _ 69 21 = _ from by rw [lx_69 (by decide) (by decide) (by decide), ox_69 (by decide)]; exact (hK).1) flX11_175 rfl rfl rfl (by decide) dX11_readStep_96 rfl ?_
        refine V_goto 106 rfl dX11_readStep_99 ?_
        refine V_iconst 107 (1) rfl dX11_readStep_106 rfl ?_
        refine V_isub 108 dX11_readStep_107 rfl ?_
        refine V_callV (K' := 0) (S' := 0) 111 69 11 2 [.int 0, .int ((nI (cH K)) - 1)] mkX11_readNumber lkX11_212 (by decide) rfl rfl (by decide) rfl (Nat.le_of_ble_eq_true rfl) (Nat.le_of_ble_eq_true rfl) (Nat.le_of_ble_eq_true rfl) (Nat.le_of_ble_eq_true rfl) rfl rfl dX11_readStep_108 rfl (c_X11_readNumber (lo := 0) (cnt := cH K) hRM (TxM.ox (o := 6) hT) (by decide) (by omega) (hh_m1 (cH K) (by omega)) ha62 (fun _ => ?_) (fun _ e _ => absurd e nb62) (fun _ _ _ e _ => absurd e nb62))
        refine Kq_i (k' := 0) (sl' := 0) rfl rfl ?_
        refine V_callV (K' := 0) (S' := 0) 114 69 11 3 [.int 0, .int 0, .int 0] mkX11_tellsStep lkX11_302 (by decide) rfl rfl (by decide) rfl (Nat.le_of_ble_eq_true rfl) (Nat.le_of_ble_eq_true rfl) (Nat.le_of_ble_eq_true rfl) (Nat.le_of_ble_eq_true rfl) rfl rfl dX11_readStep_111 rfl (c_X11_tellsStepF nb62 ?_)
        refine Kq_v (k' := 0) (sl' := 0) rfl rfl ?_
        refine V_goto 345 rfl dX11_readStep_114 ?_
        refine V_aload_n 346 2 rfl _ rfl rfl dX11_readStep_345 rfl ?_
        refine V_bipush 348 (59) rfl dX11_readStep_346 rfl ?_
        refine V_callV (K' := 0) (S' := 0) 351 69 11 1 [.int 59] mkX11_sign lkX11_242 (by decide) rfl rfl (by decide) rfl (Nat.le_of_ble_eq_true rfl) (Nat.le_of_ble_eq_true rfl) (Nat.le_of_ble_eq_true rfl) (Nat.le_of_ble_eq_true rfl) rfl rfl dX11_readStep_348 rfl (c_X11_sign (c := 59) hRM (TxM.ox (o := 6) hT) (by decide) (by decide) ha62 (fun _ => ?_) (fun e _ _ => absurd e nb62) (fun e _ => absurd e nb62))
        refine Kq_v (k' := 0) (sl' := 0) rfl rfl ?_
        refine V_ret_v rfl (Nat.le_of_ble_eq_true rfl) (fun h => absurd h (by decide)) (Nat.le_of_ble_eq_true rfl) (hb _ _ _ _ (pSs_1 (e7.trans (bd_no (show pOps t z K 0 (nx t z p) = .inl (k62, _) from (if_neg (by decide)).trans ((if_neg (by decide)).trans (bd_no e62)))))) kk62.1 kk62.2 (by omega) FrV.rf ha62) dX11_readStep_351
    · have e7 : pSt (fun _ _ p => .inl (3, p)) t z K n S p = bd (pOps t z K 1 (nx t z p)) (fun x => .inr ((n + 1, upS S n (1, x.1.1, x.1.2, n + 1)), x.2)) := by unfold pSt; rw [ek]; rfl
      refine V_aload_n 1 0 rfl _ rfl rfl dX11_readStep_0 rfl ?_
      refine V_callV (K' := 0) (S' := 0) 4 69 11 0 [] mkX11_word lkX11_227 (by decide) rfl rfl (by decide) rfl (Nat.le_of_ble_eq_true rfl) (Nat.le_of_ble_eq_true rfl) (Nat.le_of_ble_eq_true rfl) (Nat.le_of_ble_eq_true rfl) rfl rfl dX11_readStep_1 rfl (c_X11_word hRM (TxM.ox (o := 6) hT) ha ?_)
      rw [← ep]
      refine Kq_i (k' := 0) (sl' := 0) rfl rfl ?_
      refine V_istore_n 5 [(1, .int (nI (wcF t z p))), (0, rf G 69)] (by decide) rfl rfl dX11_readStep_4 rfl ?_
      refine V_iload_n 6 0 rfl rfl dX11_readStep_5 rfl ?_
      refine V_ldcSw 9 37 rfl rfl dX11_readStep_6 rfl ?_
      refine V_callS (K' := 0) (S' := 0) 12 1 [sr G 37] mkX11_of lkX11_204 rfl (Nat.le_of_ble_eq_true rfl) (Nat.le_of_ble_eq_true rfl) (Nat.le_of_ble_eq_true rfl) (Nat.le_of_ble_eq_true rfl) rfl rfl dX11_readStep_9 rfl (c_X11_of (wdo 37 (by decide) (by decide) (by decide)) ?_)
      refine Kq_i (k' := 0) (sl' := 0) rfl rfl ?_
      refine V_icmp_ne 30 15 rfl dX11_readStep_12 rfl (fun c12 => ?_) (fun c12 => absurd c12 (by rw [ekw]; decide +kernel))
      refine V_iload_n 31 0 rfl rfl dX11_readStep_30 rfl ?_
      refine V_ldcSw 34 38 rfl rfl dX11_readStep_31 rfl ?_
      refine V_callS (K' := 0) (S' := 0) 37 1 [sr G 38] mkX11_of lkX11_204 rfl (Nat.le_of_ble_eq_true rfl) (Nat.le_of_ble_eq_true rfl) (Nat.le_of_ble_eq_true rfl) (Nat.le_of_ble_eq_true rfl) rfl rfl dX11_readStep_34 rfl (c_X11_of (wdo 38 (by decide) (by decide) (by decide)) ?_)
      refine Kq_i (k' := 0) (sl' := 0) rfl rfl ?_
      refine V_icmp_eq 50 40 rfl dX11_readStep_37 rfl (fun c37 => absurd c37 (by rw [ekw]; decide +kernel)) (fun c37 => ?_)
      refine V_iload_n 41 0 rfl rfl dX11_readStep_40 rfl ?_
      refine V_ldcSw 44 39 rfl rfl dX11_readStep_41 rfl ?_
      refine V_callS (K' := 0) (S' := 0) 47 1 [sr G 39] mkX11_of lkX11_204 rfl (Nat.le_of_ble_eq_true rfl) (Nat.le_of_ble_eq_true rfl) (Nat.le_of_ble_eq_true rfl) (Nat.le_of_ble_eq_true rfl) rfl rfl dX11_readStep_44 rfl (c_X11_of (wdo 39 (by decide) (by decide) (by decide)) ?_)
      refine Kq_i (k' := 0) (sl' := 0) rfl rfl ?_
      refine V_icmp_ne 117 50 rfl dX11_readStep_47 rfl (fun c47 => ?_) (fun c47 => absurd c47 (by rw [ekw]; decide +kernel))
      refine V_iload_n 118 0 rfl rfl dX11_readStep_117 rfl ?_
      refine V_ldcSw 121 40 rfl rfl dX11_readStep_118 rfl ?_
      refine V_callS (K' := 0) (S' := 0) 124 1 [sr G 40] mkX11_of lkX11_204 rfl (Nat.le_of_ble_eq_true rfl) (Nat.le_of_ble_eq_true rfl) (Nat.le_of_ble_eq_true rfl) (Nat.le_of_ble_eq_true rfl) rfl rfl dX11_readStep_121 rfl (c_X11_of (wdo 40 (by decide) (by decide) (by decide)) ?_)
      refine Kq_i (k' := 0) (sl' := 0) rfl rfl ?_
      refine V_icmp_eq 147 127 rfl dX11_readStep_124 rfl (fun c124 => ?_) (fun c124 => absurd (show nI (wcF t z p) = nI (ocF 40) from by rw [ekw, o40]) c124)
      refine V_aload_n 148 1 rfl _ rfl rfl dX11_readStep_147 rfl ?_
      refine V_callV (K' := 0) (S' := 0) 151 69 11 0 [] mkX11_pass lkX11_236 (by decide) rfl rfl (by decide) rfl (Nat.le_of_ble_eq_true rfl) (Nat.le_of_ble_eq_true rfl) (Nat.le_of_ble_eq_true rfl) (Nat.le_of_ble_eq_true rfl) rfl rfl dX11_readStep_148 rfl (c_X11_pass hRM (TxM.ox (o := 6) hT) hs2 ?_)
      rw [kw]
      refine Kq_v (k' := 0) (sl' := 0) rfl rfl ?_
      refine V_aload_n 152 1 rfl _ rfl rfl dX11_readStep_151 rfl ?_
      refine V_iload_n 153 0 rfl rfl dX11_readStep_152 rfl ?_
      refine V_ldcSw 156 40 rfl rfl dX11_readStep_153 rfl ?_
      refine V_callS (K' := 0) (S' := 0) 159 1 [sr G 40] mkX11_of lkX11_204 rfl (Nat.le_of_ble_eq_true rfl) (Nat.le_of_ble_eq_true rfl) (Nat.le_of_ble_eq_true rfl) (Nat.le_of_ble_eq_true rfl) rfl rfl dX11_readStep_156 rfl (c_X11_of (wdo 40 (by decide) (by decide) (by decide)) ?_)
      refine Kq_i (k' := 0) (sl' := 0) rfl rfl ?_
      refine V_icmp_ne 166 162 rfl dX11_readStep_159 rfl (fun c159 => absurd (show nI (wcF t z p) = nI (ocF 40) from by rw [ekw, o40]) c159) (fun c159 => ?_)
      refine V_iconst 163 (1) rfl dX11_readStep_162 rfl ?_
      refine V_goto 181 rfl dX11_readStep_163 ?_
      refine V_aload_n 182 1 rfl _ rfl rfl dX11_readStep_181 rfl ?_
      refine V_iconst 183 (0) rfl dX11_readStep_182 rfl ?_
      refine V_aload_n 184 1 rfl _ rfl rfl dX11_readStep_183 rfl ?_
      refine V_getI 187 69 11 23 (nI (cM K)) (show lx _ _ _ _ 69 23 = _ from by rw [lx_69 (by decide) (by decide) (by decide), ox_69 (by decide)]; exact (hK).2.2.1) flX11_181 rfl rfl rfl (by decide) dX11_readStep_184 rfl ?_
      refine V_iconst 188 (1) rfl dX11_readStep_187 rfl ?_
      refine V_isub 189 dX11_readStep_188 rfl ?_
      refine V_callV (K' := 0) (S' := 0) 192 69 11 2 [.int 0, .int ((nI (cM K)) - 1)] mkX11_readNumber lkX11_212 (by decide) rfl rfl (by decide) rfl (Nat.le_of_ble_eq_true rfl) (Nat.le_of_ble_eq_true rfl) (Nat.le_of_ble_eq_true rfl) (Nat.le_of_ble_eq_true rfl) rfl rfl dX11_readStep_189 rfl (c_X11_readNumber (lo := 0) (cnt := cM K) hRM (TxM.ox (o := 6) hT) (by decide) (by omega) (hh_m1 (cM K) (by omega)) he (fun e => absurd rfl e) (fun v189 _ e189 => ?_) (fun k189 a189 ha189 _ e189 => ?_))
      · refine Kq_i (k' := 0) (sl' := 0) rfl rfl ?_
        obtain ⟨-, -, lo189, hi189, -, -, lt189, hz189⟩ := pNum_ok e189
        refine V_iconst 193 (0) rfl dX11_readStep_192 rfl ?_
        refine V_callV (K' := 0) (S' := 0) 196 69 11 3 [.int 1, .int (nI v189), .int 0] mkX11_tellsStep lkX11_302 (by decide) rfl rfl (by decide) rfl (Nat.le_of_ble_eq_true rfl) (Nat.le_of_ble_eq_true rfl) (Nat.le_of_ble_eq_true rfl) (Nat.le_of_ble_eq_true rfl) rfl rfl dX11_readStep_193 rfl (c_X11_tellsStep (x := nI 1) (y := nI v189) (w := nI 0) hRM h34 (by omega) ?_)
        refine Kq_v (k' := 0) (sl' := 0) rfl rfl ?_
        refine V_goto 345 rfl dX11_readStep_196 ?_
        refine V_aload_n 346 1 rfl _ rfl rfl dX11_readStep_345 rfl ?_
        refine V_bipush 348 (59) rfl dX11_readStep_346 rfl ?_
        refine V_callV (K' := 0) (S' := 0) 351 69 11 1 [.int 59] mkX11_sign lkX11_242 (by decide) rfl rfl (by decide) rfl (Nat.le_of_ble_eq_true rfl) (Nat.le_of_ble_eq_true rfl) (Nat.le_of_ble_eq_true rfl) (Nat.le_of_ble_eq_true rfl) rfl rfl dX11_readStep_348 rfl (c_X11_sign (c := 59) hRM (TxM.ox (o := 6) (ts_fr.T hT)) (by decide) (by decide) (enF_z (sk_z he).2.1).2.1 (fun e => absurd rfl e) (fun _ z348 s348 => ?_) (fun _ e348 => ?_))
        · refine Kq_v (k' := 0) (sl' := 0) rfl rfl ?_
          have e348 : pSig t z 59 (sk t z (enF t z (sk t z (enF t z p)))) = .inr (sk t z (sk t z (enF t z (sk t z (enF t z p))) + 1)) := sig_ok z348 s348 (by decide) (by decide)
          have lz348 := (pSig_ok e348).2.2.2
          refine V_ret_v rfl (Nat.le_of_ble_eq_true rfl) (fun h => absurd h (by decide)) (Nat.le_of_ble_eq_true rfl) (hk _ _ _ _ _ (pSs_o (e7.trans (bd_ok (show pOps t z K 1 (nx t z p) = .inr ((v189, 0), _) from (if_neg (by decide)).trans ((if_neg (by decide)).trans ((bd_ok e189).trans ((if_neg (by decide)).trans (if_neg (by decide)))))))) e348) ts_34 (fun i q1 q2 => by rw [show i = n by omega, upS_s]; exact ts_M (by decide)) ts_E ts_fr (Nat.succ_le_of_lt z348) rfl) dX11_readStep_351
        · refine Kq_v (k' := 0) (sl' := 0) rfl rfl ?_
          have nb348 : ¬ nI (sk t z (enF t z (sk t z (enF t z p)))) = -1 := nI_ne (by first | omega | exact Nat.lt_of_le_of_lt (sk_z (t := t) (enF_z (sk_z he).2.1).2.1).2.1 (by omega))
          refine V_ret_v rfl (Nat.le_of_ble_eq_true rfl) (fun h => absurd h (by decide)) (Nat.le_of_ble_eq_true rfl) (hb 1 _ _ _ (pSs_2 (e7.trans (bd_ok (show pOps t z K 1 (nx t z p) = .inr ((v189, 0), _) from (if_neg (by decide)).trans ((if_neg (by decide)).trans ((bd_ok e189).trans ((if_neg (by decide)).trans (if_neg (by decide)))))))) e348) (by decide) (by decide) (by first | omega | exact (sk_z (t := t) (by assumption)).2.1) ts_fr (sk_z (enF_z (sk_z he).2.1).2.1).2.1) dX11_readStep_351
      · refine Kq_i (k' := 0) (sl' := 0) rfl rfl ?_
        have kk189 := pNum_k e189
        have nb189 : ¬ nI (sk t z (enF t z p)) = -1 := nI_ne (by first | omega | exact Nat.lt_of_le_of_lt (sk_z (t := t) he).2.1 (by omega))
        refine V_iconst 193 (0) rfl dX11_readStep_192 rfl ?_
        refine V_callV (K' := 0) (S' := 0) 196 69 11 3 [.int 1, .int 0, .int 0] mkX11_tellsStep lkX11_302 (by decide) rfl rfl (by decide) rfl (Nat.le_of_ble_eq_true rfl) (Nat.le_of_ble_eq_true rfl) (Nat.le_of_ble_eq_true rfl) (Nat.le_of_ble_eq_true rfl) rfl rfl dX11_readStep_193 rfl (c_X11_tellsStepF nb189 ?_)
        refine Kq_v (k' := 0) (sl' := 0) rfl rfl ?_
        refine V_goto 345 rfl dX11_readStep_196 ?_
        refine V_aload_n 346 1 rfl _ rfl rfl dX11_readStep_345 rfl ?_
        refine V_bipush 348 (59) rfl dX11_readStep_346 rfl ?_
        refine V_callV (K' := 0) (S' := 0) 351 69 11 1 [.int 59] mkX11_sign lkX11_242 (by decide) rfl rfl (by decide) rfl (Nat.le_of_ble_eq_true rfl) (Nat.le_of_ble_eq_true rfl) (Nat.le_of_ble_eq_true rfl) (Nat.le_of_ble_eq_true rfl) rfl rfl dX11_readStep_348 rfl (c_X11_sign (c := 59) hRM (TxM.ox (o := 6) hT) (by decide) (by decide) ha189 (fun _ => ?_) (fun e _ _ => absurd e nb189) (fun e _ => absurd e nb189))
        refine Kq_v (k' := 0) (sl' := 0) rfl rfl ?_
        refine V_ret_v rfl (Nat.le_of_ble_eq_true rfl) (fun h => absurd h (by decide)) (Nat.le_of_ble_eq_true rfl) (hb _ _ _ _ (pSs_1 (e7.trans (bd_no (show pOps t z K 1 (nx t z p) = .inl (k189, _) from (if_neg (by decide)).trans ((if_neg (by decide)).trans (bd_no e189)))))) kk189.1 kk189.2 (by omega) FrV.rf ha189) dX11_readStep_351
    · have e7 : pSt (fun _ _ p => .inl (3, p)) t z K n S p = bd (pOps t z K 2 (nx t z p)) (fun x => .inr ((n + 1, upS S n (2, x.1.1, x.1.2, n + 1)), x.2)) := by unfold pSt; rw [ek]; rfl
      refine V_aload_n 1 0 rfl _ rfl rfl dX11_readStep_0 rfl ?_
      refine V_callV (K' := 0) (S' := 0) 4 69 11 0 [] mkX11_word lkX11_227 (by decide) rfl rfl (by decide) rfl (Nat.le_of_ble_eq_true rfl) (Nat.le_of_ble_eq_true rfl) (Nat.le_of_ble_eq_true rfl) (Nat.le_of_ble_eq_true rfl) rfl rfl dX11_readStep_1 rfl (c_X11_word hRM (TxM.ox (o := 6) hT) ha ?_)
      rw [← ep]
      refine Kq_i (k' := 0) (sl' := 0) rfl rfl ?_
      refine V_istore_n 5 [(1, .int (nI (wcF t z p))), (0, rf G 69)] (by decide) rfl rfl dX11_readStep_4 rfl ?_
      refine V_iload_n 6 0 rfl rfl dX11_readStep_5 rfl ?_
      refine V_ldcSw 9 37 rfl rfl dX11_readStep_6 rfl ?_
      refine V_callS (K' := 0) (S' := 0) 12 1 [sr G 37] mkX11_of lkX11_204 rfl (Nat.le_of_ble_eq_true rfl) (Nat.le_of_ble_eq_true rfl) (Nat.le_of_ble_eq_true rfl) (Nat.le_of_ble_eq_true rfl) rfl rfl dX11_readStep_9 rfl (c_X11_of (wdo 37 (by decide) (by decide) (by decide)) ?_)
      refine Kq_i (k' := 0) (sl' := 0) rfl rfl ?_
      refine V_icmp_ne 30 15 rfl dX11_readStep_12 rfl (fun c12 => ?_) (fun c12 => absurd c12 (by rw [ekw]; decide +kernel))
      refine V_iload_n 31 0 rfl rfl dX11_readStep_30 rfl ?_
      refine V_ldcSw 34 38 rfl rfl dX11_readStep_31 rfl ?_
      refine V_callS (K' := 0) (S' := 0) 37 1 [sr G 38] mkX11_of lkX11_204 rfl (Nat.le_of_ble_eq_true rfl) (Nat.le_of_ble_eq_true rfl) (Nat.le_of_ble_eq_true rfl) (Nat.le_of_ble_eq_true rfl) rfl rfl dX11_readStep_34 rfl (c_X11_of (wdo 38 (by decide) (by decide) (by decide)) ?_)
      refine Kq_i (k' := 0) (sl' := 0) rfl rfl ?_
      refine V_icmp_eq 50 40 rfl dX11_readStep_37 rfl (fun c37 => absurd c37 (by rw [ekw]; decide +kernel)) (fun c37 => ?_)
      refine V_iload_n 41 0 rfl rfl dX11_readStep_40 rfl ?_
      refine V_ldcSw 44 39 rfl rfl dX11_readStep_41 rfl ?_
      refine V_callS (K' := 0) (S' := 0) 47 1 [sr G 39] mkX11_of lkX11_204 rfl (Nat.le_of_ble_eq_true rfl) (Nat.le_of_ble_eq_true rfl) (Nat.le_of_ble_eq_true rfl) (Nat.le_of_ble_eq_true rfl) rfl rfl dX11_readStep_44 rfl (c_X11_of (wdo 39 (by decide) (by decide) (by decide)) ?_)
      refine Kq_i (k' := 0) (sl' := 0) rfl rfl ?_
      refine V_icmp_ne 117 50 rfl dX11_readStep_47 rfl (fun c47 => absurd (show nI (wcF t z p) = nI (ocF 39) from by rw [ekw, o39]) c47) (fun c47 => ?_)
      refine V_aload_n 51 1 rfl _ rfl rfl dX11_readStep_50 rfl ?_
      refine V_callV (K' := 0) (S' := 0) 54 69 11 0 [] mkX11_pass lkX11_236 (by decide) rfl rfl (by decide) rfl (Nat.le_of_ble_eq_true rfl) (Nat.le_of_ble_eq_true rfl) (Nat.le_of_ble_eq_true rfl) (Nat.le_of_ble_eq_true rfl) rfl rfl dX11_readStep_51 rfl (c_X11_pass hRM (TxM.ox (o := 6) hT) hs2 ?_)
      rw [kw]
      refine Kq_v (k' := 0) (sl' := 0) rfl rfl ?_
      refine V_aload_n 55 1 rfl _ rfl rfl dX11_readStep_54 rfl ?_
      refine V_iconst 56 (0) rfl dX11_readStep_55 rfl ?_
      refine V_aload_n 57 1 rfl _ rfl rfl dX11_readStep_56 rfl ?_
      refine V_getI 60 69 11 23 (nI (cM K)) (show lx _ _ _ _ 69 23 = _ from by rw [lx_69 (by decide) (by decide) (by decide), ox_69 (by decide)]; exact (hK).2.2.1) flX11_181 rfl rfl rfl (by decide) dX11_readStep_57 rfl ?_
      refine V_iconst 61 (1) rfl dX11_readStep_60 rfl ?_
      refine V_isub 62 dX11_readStep_61 rfl ?_
      refine V_callV (K' := 0) (S' := 0) 65 69 11 2 [.int 0, .int ((nI (cM K)) - 1)] mkX11_readNumber lkX11_212 (by decide) rfl rfl (by decide) rfl (Nat.le_of_ble_eq_true rfl) (Nat.le_of_ble_eq_true rfl) (Nat.le_of_ble_eq_true rfl) (Nat.le_of_ble_eq_true rfl) rfl rfl dX11_readStep_62 rfl (c_X11_readNumber (lo := 0) (cnt := cM K) hRM (TxM.ox (o := 6) hT) (by decide) (by omega) (hh_m1 (cM K) (by omega)) he (fun e => absurd rfl e) (fun v62 _ e62 => ?_) (fun k62 a62 ha62 _ e62 => ?_))
      · refine Kq_i (k' := 0) (sl' := 0) rfl rfl ?_
        obtain ⟨-, -, lo62, hi62, -, -, lt62, hz62⟩ := pNum_ok e62
        refine V_istore_n 66 [(2, .int (nI v62)), (1, .int (nI (wcF t z p))), (0, rf G 69)] (by decide) rfl rfl dX11_readStep_65 rfl ?_
        refine V_aload_n 67 2 rfl _ rfl rfl dX11_readStep_66 rfl ?_
        refine V_iload_n 68 1 rfl rfl dX11_readStep_67 rfl ?_
        refine V_ldcSw 71 38 rfl rfl dX11_readStep_68 rfl ?_
        refine V_callS (K' := 0) (S' := 0) 74 1 [sr G 38] mkX11_of lkX11_204 rfl (Nat.le_of_ble_eq_true rfl) (Nat.le_of_ble_eq_true rfl) (Nat.le_of_ble_eq_true rfl) (Nat.le_of_ble_eq_true rfl) rfl rfl dX11_readStep_71 rfl (c_X11_of (wdo 38 (by decide) (by decide) (by decide)) ?_)
        refine Kq_i (k' := 0) (sl' := 0) rfl rfl ?_
        refine V_icmp_ne 81 77 rfl dX11_readStep_74 rfl (fun c74 => ?_) (fun c74 => absurd c74 (by rw [ekw]; decide +kernel))
        refine V_iconst 82 (2) rfl dX11_readStep_81 rfl ?_
        refine V_iload_n 83 0 rfl rfl dX11_readStep_82 rfl ?_
        refine V_aload_n 84 2 rfl _ rfl rfl dX11_readStep_83 rfl ?_
        refine V_iconst 85 (0) rfl dX11_readStep_84 rfl ?_
        refine V_iload_n 86 1 rfl rfl dX11_readStep_85 rfl ?_
        refine V_ldcSw 89 38 rfl rfl dX11_readStep_86 rfl ?_
        refine V_callS (K' := 0) (S' := 0) 92 1 [sr G 38] mkX11_of lkX11_204 rfl (Nat.le_of_ble_eq_true rfl) (Nat.le_of_ble_eq_true rfl) (Nat.le_of_ble_eq_true rfl) (Nat.le_of_ble_eq_true rfl) rfl rfl dX11_readStep_89 rfl (c_X11_of (wdo 38 (by decide) (by decide) (by decide)) ?_)
        refine Kq_i (k' := 0) (sl' := 0) rfl rfl ?_
        refine V_icmp_ne 102 95 rfl dX11_readStep_92 rfl (fun c92 => ?_) (fun c92 => absurd c92 (by rw [ekw]; decide +kernel))
        refine V_aload_n 103 2 rfl _ rfl rfl dX11_readStep_102 rfl ?_
        refine V_getI 106 69 11 22 (nI (cG K)) (show lx _ _ _ _ 69 22 = _ from by rw [lx_69 (by decide) (by decide) (by decide), ox_69 (by decide)]; exact (hK).2.1) flX11_178 rfl rfl rfl (by decide) dX11_readStep_103 rfl ?_
        refine V_iconst 107 (1) rfl dX11_readStep_106 rfl ?_
        refine V_isub 108 dX11_readStep_107 rfl ?_
        refine V_callV (K' := 0) (S' := 0) 111 69 11 2 [.int 0, .int ((nI (cG K)) - 1)] mkX11_readNumber lkX11_212 (by decide) rfl rfl (by decide) rfl (Nat.le_of_ble_eq_true rfl) (Nat.le_of_ble_eq_true rfl) (Nat.le_of_ble_eq_true rfl) (Nat.le_of_ble_eq_true rfl) rfl rfl dX11_readStep_108 rfl (c_X11_readNumber (lo := 0) (cnt := cG K) hRM (TxM.ox (o := 6) hT) (by decide) (by omega) (hh_m1 (cG K) (by omega)) (enF_z (sk_z he).2.1).2.1 (fun e => absurd rfl e) (fun v108 _ e108 => ?_) (fun k108 a108 ha108 _ e108 => ?_))
        · refine Kq_i (k' := 0) (sl' := 0) rfl rfl ?_
          obtain ⟨-, -, lo108, hi108, -, -, lt108, hz108⟩ := pNum_ok e108
          refine V_callV (K' := 0) (S' := 0) 114 69 11 3 [.int 2, .int (nI v62), .int (nI v108)] mkX11_tellsStep lkX11_302 (by decide) rfl rfl (by decide) rfl (Nat.le_of_ble_eq_true rfl) (Nat.le_of_ble_eq_true rfl) (Nat.le_of_ble_eq_true rfl) (Nat.le_of_ble_eq_true rfl) rfl rfl dX11_readStep_111 rfl (c_X11_tellsStep (x := nI 2) (y := nI v62) (w := nI v108) hRM h34 (by omega) ?_)
          refine Kq_v (k' := 0) (sl' := 0) rfl rfl ?_
          refine V_goto 345 rfl dX11_readStep_114 ?_
          refine V_aload_n 346 2 rfl _ rfl rfl dX11_readStep_345 rfl ?_
          refine V_bipush 348 (59) rfl dX11_readStep_346 rfl ?_
          refine V_callV (K' := 0) (S' := 0) 351 69 11 1 [.int 59] mkX11_sign lkX11_242 (by decide) rfl rfl (by decide) rfl (Nat.le_of_ble_eq_true rfl) (Nat.le_of_ble_eq_true rfl) (Nat.le_of_ble_eq_true rfl) (Nat.le_of_ble_eq_true rfl) rfl rfl dX11_readStep_348 rfl (c_X11_sign (c := 59) hRM (TxM.ox (o := 6) (ts_fr.T hT)) (by decide) (by decide) (enF_z (sk_z (enF_z (sk_z he).2.1).2.1).2.1).2.1 (fun e => absurd rfl e) (fun _ z348 s348 => ?_) (fun _ e348 => ?_))
          · refine Kq_v (k' := 0) (sl' := 0) rfl rfl ?_
            have e348 : pSig t z 59 (sk t z (enF t z (sk t z (enF t z (sk t z (enF t z p)))))) = .inr (sk t z (sk t z (enF t z (sk t z (enF t z (sk t z (enF t z p))))) + 1)) := sig_ok z348 s348 (by decide) (by decide)
            have lz348 := (pSig_ok e348).2.2.2
            refine V_ret_v rfl (Nat.le_of_ble_eq_true rfl) (fun h => absurd h (by decide)) (Nat.le_of_ble_eq_true rfl) (hk _ _ _ _ _ (pSs_o (e7.trans (bd_ok (show pOps t z K 2 (nx t z p) = .inr ((v62, v108), _) from (if_neg (by decide)).trans ((if_neg (by decide)).trans ((bd_ok e62).trans (((if_neg (by decide)).trans (if_pos rfl)).trans (bd_ok e108))))))) e348) ts_34 (fun i q1 q2 => by rw [show i = n by omega, upS_s]; exact ts_M (by decide)) ts_E ts_fr (Nat.succ_le_of_lt z348) rfl) dX11_readStep_351
          · refine Kq_v (k' := 0) (sl' := 0) rfl rfl ?_
            have nb348 : ¬ nI (sk t z (enF t z (sk t z (enF t z (sk t z (enF t z p)))))) = -1 := nI_ne (by first | omega | exact Nat.lt_of_le_of_lt (sk_z (t := t) (enF_z (sk_z (enF_z (sk_z he).2.1).2.1).2.1).2.1).2.1 (by omega))
            refine V_ret_v rfl (Nat.le_of_ble_eq_true rfl) (fun h => absurd h (by decide)) (Nat.le_of_ble_eq_true rfl) (hb 1 _ _ _ (pSs_2 (e7.trans (bd_ok (show pOps t z K 2 (nx t z p) = .inr ((v62, v108), _) from (if_neg (by decide)).trans ((if_neg (by decide)).trans ((bd_ok e62).trans (((if_neg (by decide)).trans (if_pos rfl)).trans (bd_ok e108))))))) e348) (by decide) (by decide) (by first | omega | exact (sk_z (t := t) (by assumption)).2.1) ts_fr (sk_z (enF_z (sk_z (enF_z (sk_z he).2.1).2.1).2.1).2.1).2.1) dX11_readStep_351
        · refine Kq_i (k' := 0) (sl' := 0) rfl rfl ?_
          have kk108 := pNum_k e108
          have nb108 : ¬ nI (sk t z (enF t z (sk t z (enF t z p)))) = -1 := nI_ne (by first | omega | exact Nat.lt_of_le_of_lt (sk_z (t := t) (enF_z (sk_z he).2.1).2.1).2.1 (by omega))
          refine V_callV (K' := 0) (S' := 0) 114 69 11 3 [.int 2, .int (nI v62), .int 0] mkX11_tellsStep lkX11_302 (by decide) rfl rfl (by decide) rfl (Nat.le_of_ble_eq_true rfl) (Nat.le_of_ble_eq_true rfl) (Nat.le_of_ble_eq_true rfl) (Nat.le_of_ble_eq_true rfl) rfl rfl dX11_readStep_111 rfl (c_X11_tellsStepF nb108 ?_)
          refine Kq_v (k' := 0) (sl' := 0) rfl rfl ?_
          refine V_goto 345 rfl dX11_readStep_114 ?_
          refine V_aload_n 346 2 rfl _ rfl rfl dX11_readStep_345 rfl ?_
          refine V_bipush 348 (59) rfl dX11_readStep_346 rfl ?_
          refine V_callV (K' := 0) (S' := 0) 351 69 11 1 [.int 59] mkX11_sign lkX11_242 (by decide) rfl rfl (by decide) rfl (Nat.le_of_ble_eq_true rfl) (Nat.le_of_ble_eq_true rfl) (Nat.le_of_ble_eq_true rfl) (Nat.le_of_ble_eq_true rfl) rfl rfl dX11_readStep_348 rfl (c_X11_sign (c := 59) hRM (TxM.ox (o := 6) hT) (by decide) (by decide) ha108 (fun _ => ?_) (fun e _ _ => absurd e nb108) (fun e _ => absurd e nb108))
          refine Kq_v (k' := 0) (sl' := 0) rfl rfl ?_
          refine V_ret_v rfl (Nat.le_of_ble_eq_true rfl) (fun h => absurd h (by decide)) (Nat.le_of_ble_eq_true rfl) (hb _ _ _ _ (pSs_1 (e7.trans (bd_no (show pOps t z K 2 (nx t z p) = .inl (k108, _) from (if_neg (by decide)).trans ((if_neg (by decide)).trans ((bd_ok e62).trans (((if_neg (by decide)).trans (if_pos rfl)).trans (bd_no e108)))))))) kk108.1 kk108.2 (by omega) FrV.rf ha108) dX11_readStep_351
      · refine Kq_i (k' := 0) (sl' := 0) rfl rfl ?_
        have kk62 := pNum_k e62
        have nb62 : ¬ nI (sk t z (enF t z p)) = -1 := nI_ne (by first | omega | exact Nat.lt_of_le_of_lt (sk_z (t := t) he).2.1 (by omega))
        refine V_istore_n 66 [(2, .int 0), (1, .int (nI (wcF t z p))), (0, rf G 69)] (by decide) rfl rfl dX11_readStep_65 rfl ?_
        refine V_aload_n 67 2 rfl _ rfl rfl dX11_readStep_66 rfl ?_
        refine V_iload_n 68 1 rfl rfl dX11_readStep_67 rfl ?_
        refine V_ldcSw 71 38 rfl rfl dX11_readStep_68 rfl ?_
        refine V_callS (K' := 0) (S' := 0) 74 1 [sr G 38] mkX11_of lkX11_204 rfl (Nat.le_of_ble_eq_true rfl) (Nat.le_of_ble_eq_true rfl) (Nat.le_of_ble_eq_true rfl) (Nat.le_of_ble_eq_true rfl) rfl rfl dX11_readStep_71 rfl (c_X11_of (wdo 38 (by decide) (by decide) (by decide)) ?_)
        refine Kq_i (k' := 0) (sl' := 0) rfl rfl ?_
        refine V_icmp_ne 81 77 rfl dX11_readStep_74 rfl (fun c74 => ?_) (fun c74 => absurd c74 (by rw [ekw]; decide +kernel))
        refine V_iconst 82 (2) rfl dX11_readStep_81 rfl ?_
        refine V_iload_n 83 0 rfl rfl dX11_readStep_82 rfl ?_
        refine V_aload_n 84 2 rfl _ rfl rfl dX11_readStep_83 rfl ?_
        refine V_iconst 85 (0) rfl dX11_readStep_84 rfl ?_
        refine V_iload_n 86 1 rfl rfl dX11_readStep_85 rfl ?_
        refine V_ldcSw 89 38 rfl rfl dX11_readStep_86 rfl ?_
        refine V_callS (K' := 0) (S' := 0) 92 1 [sr G 38] mkX11_of lkX11_204 rfl (Nat.le_of_ble_eq_true rfl) (Nat.le_of_ble_eq_true rfl) (Nat.le_of_ble_eq_true rfl) (Nat.le_of_ble_eq_true rfl) rfl rfl dX11_readStep_89 rfl (c_X11_of (wdo 38 (by decide) (by decide) (by decide)) ?_)
        refine Kq_i (k' := 0) (sl' := 0) rfl rfl ?_
        refine V_icmp_ne 102 95 rfl dX11_readStep_92 rfl (fun c92 => ?_) (fun c92 => absurd c92 (by rw [ekw]; decide +kernel))
        refine V_aload_n 103 2 rfl _ rfl rfl dX11_readStep_102 rfl ?_
        refine V_getI 106 69 11 22 (nI (cG K)) (show lx _ _ _ _ 69 22 = _ from by rw [lx_69 (by decide) (by decide) (by decide), ox_69 (by decide)]; exact (hK).2.1) flX11_178 rfl rfl rfl (by decide) dX11_readStep_103 rfl ?_
        refine V_iconst 107 (1) rfl dX11_readStep_106 rfl ?_
        refine V_isub 108 dX11_readStep_107 rfl ?_
        refine V_callV (K' := 0) (S' := 0) 111 69 11 2 [.int 0, .int ((nI (cG K)) - 1)] mkX11_readNumber lkX11_212 (by decide) rfl rfl (by decide) rfl (Nat.le_of_ble_eq_true rfl) (Nat.le_of_ble_eq_true rfl) (Nat.le_of_ble_eq_true rfl) (Nat.le_of_ble_eq_true rfl) rfl rfl dX11_readStep_108 rfl (c_X11_readNumber (lo := 0) (cnt := cG K) hRM (TxM.ox (o := 6) hT) (by decide) (by omega) (hh_m1 (cG K) (by omega)) ha62 (fun _ => ?_) (fun _ e _ => absurd e nb62) (fun _ _ _ e _ => absurd e nb62))
        refine Kq_i (k' := 0) (sl' := 0) rfl rfl ?_
        refine V_callV (K' := 0) (S' := 0) 114 69 11 3 [.int 2, .int 0, .int 0] mkX11_tellsStep lkX11_302 (by decide) rfl rfl (by decide) rfl (Nat.le_of_ble_eq_true rfl) (Nat.le_of_ble_eq_true rfl) (Nat.le_of_ble_eq_true rfl) (Nat.le_of_ble_eq_true rfl) rfl rfl dX11_readStep_111 rfl (c_X11_tellsStepF nb62 ?_)
        refine Kq_v (k' := 0) (sl' := 0) rfl rfl ?_
        refine V_goto 345 rfl dX11_readStep_114 ?_
        refine V_aload_n 346 2 rfl _ rfl rfl dX11_readStep_345 rfl ?_
        refine V_bipush 348 (59) rfl dX11_readStep_346 rfl ?_
        refine V_callV (K' := 0) (S' := 0) 351 69 11 1 [.int 59] mkX11_sign lkX11_242 (by decide) rfl rfl (by decide) rfl (Nat.le_of_ble_eq_true rfl) (Nat.le_of_ble_eq_true rfl) (Nat.le_of_ble_eq_true rfl) (Nat.le_of_ble_eq_true rfl) rfl rfl dX11_readStep_348 rfl (c_X11_sign (c := 59) hRM (TxM.ox (o := 6) hT) (by decide) (by decide) ha62 (fun _ => ?_) (fun e _ _ => absurd e nb62) (fun e _ => absurd e nb62))
        refine Kq_v (k' := 0) (sl' := 0) rfl rfl ?_
        refine V_ret_v rfl (Nat.le_of_ble_eq_true rfl) (fun h => absurd h (by decide)) (Nat.le_of_ble_eq_true rfl) (hb _ _ _ _ (pSs_1 (e7.trans (bd_no (show pOps t z K 2 (nx t z p) = .inl (k62, _) from (if_neg (by decide)).trans ((if_neg (by decide)).trans (bd_no e62)))))) kk62.1 kk62.2 (by omega) FrV.rf ha62) dX11_readStep_351
    · have e7 : pSt (fun _ _ p => .inl (3, p)) t z K n S p = bd (pOps t z K 3 (nx t z p)) (fun x => .inr ((n + 1, upS S n (3, x.1.1, x.1.2, n + 1)), x.2)) := by unfold pSt; rw [ek]; rfl
      refine V_aload_n 1 0 rfl _ rfl rfl dX11_readStep_0 rfl ?_
      refine V_callV (K' := 0) (S' := 0) 4 69 11 0 [] mkX11_word lkX11_227 (by decide) rfl rfl (by decide) rfl (Nat.le_of_ble_eq_true rfl) (Nat.le_of_ble_eq_true rfl) (Nat.le_of_ble_eq_true rfl) (Nat.le_of_ble_eq_true rfl) rfl rfl dX11_readStep_1 rfl (c_X11_word hRM (TxM.ox (o := 6) hT) ha ?_)
      rw [← ep]
      refine Kq_i (k' := 0) (sl' := 0) rfl rfl ?_
      refine V_istore_n 5 [(1, .int (nI (wcF t z p))), (0, rf G 69)] (by decide) rfl rfl dX11_readStep_4 rfl ?_
      refine V_iload_n 6 0 rfl rfl dX11_readStep_5 rfl ?_
      refine V_ldcSw 9 37 rfl rfl dX11_readStep_6 rfl ?_
      refine V_callS (K' := 0) (S' := 0) 12 1 [sr G 37] mkX11_of lkX11_204 rfl (Nat.le_of_ble_eq_true rfl) (Nat.le_of_ble_eq_true rfl) (Nat.le_of_ble_eq_true rfl) (Nat.le_of_ble_eq_true rfl) rfl rfl dX11_readStep_9 rfl (c_X11_of (wdo 37 (by decide) (by decide) (by decide)) ?_)
      refine Kq_i (k' := 0) (sl' := 0) rfl rfl ?_
      refine V_icmp_ne 30 15 rfl dX11_readStep_12 rfl (fun c12 => ?_) (fun c12 => absurd c12 (by rw [ekw]; decide +kernel))
      refine V_iload_n 31 0 rfl rfl dX11_readStep_30 rfl ?_
      refine V_ldcSw 34 38 rfl rfl dX11_readStep_31 rfl ?_
      refine V_callS (K' := 0) (S' := 0) 37 1 [sr G 38] mkX11_of lkX11_204 rfl (Nat.le_of_ble_eq_true rfl) (Nat.le_of_ble_eq_true rfl) (Nat.le_of_ble_eq_true rfl) (Nat.le_of_ble_eq_true rfl) rfl rfl dX11_readStep_34 rfl (c_X11_of (wdo 38 (by decide) (by decide) (by decide)) ?_)
      refine Kq_i (k' := 0) (sl' := 0) rfl rfl ?_
      refine V_icmp_eq 50 40 rfl dX11_readStep_37 rfl (fun c37 => absurd c37 (by rw [ekw]; decide +kernel)) (fun c37 => ?_)
      refine V_iload_n 41 0 rfl rfl dX11_readStep_40 rfl ?_
      refine V_ldcSw 44 39 rfl rfl dX11_readStep_41 rfl ?_
      refine V_callS (K' := 0) (S' := 0) 47 1 [sr G 39] mkX11_of lkX11_204 rfl (Nat.le_of_ble_eq_true rfl) (Nat.le_of_ble_eq_true rfl) (Nat.le_of_ble_eq_true rfl) (Nat.le_of_ble_eq_true rfl) rfl rfl dX11_readStep_44 rfl (c_X11_of (wdo 39 (by decide) (by decide) (by decide)) ?_)
      refine Kq_i (k' := 0) (sl' := 0) rfl rfl ?_
      refine V_icmp_ne 117 50 rfl dX11_readStep_47 rfl (fun c47 => ?_) (fun c47 => absurd c47 (by rw [ekw]; decide +kernel))
      refine V_iload_n 118 0 rfl rfl dX11_readStep_117 rfl ?_
      refine V_ldcSw 121 40 rfl rfl dX11_readStep_118 rfl ?_
      refine V_callS (K' := 0) (S' := 0) 124 1 [sr G 40] mkX11_of lkX11_204 rfl (Nat.le_of_ble_eq_true rfl) (Nat.le_of_ble_eq_true rfl) (Nat.le_of_ble_eq_true rfl) (Nat.le_of_ble_eq_true rfl) rfl rfl dX11_readStep_121 rfl (c_X11_of (wdo 40 (by decide) (by decide) (by decide)) ?_)
      refine Kq_i (k' := 0) (sl' := 0) rfl rfl ?_
      refine V_icmp_eq 147 127 rfl dX11_readStep_124 rfl (fun c124 => absurd c124 (by rw [ekw]; decide +kernel)) (fun c124 => ?_)
      refine V_iload_n 128 0 rfl rfl dX11_readStep_127 rfl ?_
      refine V_ldcSw 131 41 rfl rfl dX11_readStep_128 rfl ?_
      refine V_callS (K' := 0) (S' := 0) 134 1 [sr G 41] mkX11_of lkX11_204 rfl (Nat.le_of_ble_eq_true rfl) (Nat.le_of_ble_eq_true rfl) (Nat.le_of_ble_eq_true rfl) (Nat.le_of_ble_eq_true rfl) rfl rfl dX11_readStep_131 rfl (c_X11_of (wdo 41 (by decide) (by decide) (by decide)) ?_)
      refine Kq_i (k' := 0) (sl' := 0) rfl rfl ?_
      refine V_icmp_eq 147 137 rfl dX11_readStep_134 rfl (fun c134 => ?_) (fun c134 => absurd (show nI (wcF t z p) = nI (ocF 41) from by rw [ekw, o41]) c134)
      refine V_aload_n 148 1 rfl _ rfl rfl dX11_readStep_147 rfl ?_
      refine V_callV (K' := 0) (S' := 0) 151 69 11 0 [] mkX11_pass lkX11_236 (by decide) rfl rfl (by decide) rfl (Nat.le_of_ble_eq_true rfl) (Nat.le_of_ble_eq_true rfl) (Nat.le_of_ble_eq_true rfl) (Nat.le_of_ble_eq_true rfl) rfl rfl dX11_readStep_148 rfl (c_X11_pass hRM (TxM.ox (o := 6) hT) hs2 ?_)
      rw [kw]
      refine Kq_v (k' := 0) (sl' := 0) rfl rfl ?_
      refine V_aload_n 152 1 rfl _ rfl rfl dX11_readStep_151 rfl ?_
      refine V_iload_n 153 0 rfl rfl dX11_readStep_152 rfl ?_
      refine V_ldcSw 156 40 rfl rfl dX11_readStep_153 rfl ?_
      refine V_callS (K' := 0) (S' := 0) 159 1 [sr G 40] mkX11_of lkX11_204 rfl (Nat.le_of_ble_eq_true rfl) (Nat.le_of_ble_eq_true rfl) (Nat.le_of_ble_eq_true rfl) (Nat.le_of_ble_eq_true rfl) rfl rfl dX11_readStep_156 rfl (c_X11_of (wdo 40 (by decide) (by decide) (by decide)) ?_)
      refine Kq_i (k' := 0) (sl' := 0) rfl rfl ?_
      refine V_icmp_ne 166 162 rfl dX11_readStep_159 rfl (fun c159 => ?_) (fun c159 => absurd c159 (by rw [ekw]; decide +kernel))
      refine V_iload_n 167 0 rfl rfl dX11_readStep_166 rfl ?_
      refine V_ldcSw 170 41 rfl rfl dX11_readStep_167 rfl ?_
      refine V_callS (K' := 0) (S' := 0) 173 1 [sr G 41] mkX11_of lkX11_204 rfl (Nat.le_of_ble_eq_true rfl) (Nat.le_of_ble_eq_true rfl) (Nat.le_of_ble_eq_true rfl) (Nat.le_of_ble_eq_true rfl) rfl rfl dX11_readStep_170 rfl (c_X11_of (wdo 41 (by decide) (by decide) (by decide)) ?_)
      refine Kq_i (k' := 0) (sl' := 0) rfl rfl ?_
      refine V_icmp_ne 180 176 rfl dX11_readStep_173 rfl (fun c173 => absurd (show nI (wcF t z p) = nI (ocF 41) from by rw [ekw, o41]) c173) (fun c173 => ?_)
      refine V_iconst 177 (3) rfl dX11_readStep_176 rfl ?_
      refine V_goto 181 rfl dX11_readStep_177 ?_
      refine V_aload_n 182 1 rfl _ rfl rfl dX11_readStep_181 rfl ?_
      refine V_iconst 183 (0) rfl dX11_readStep_182 rfl ?_
      refine V_aload_n 184 1 rfl _ rfl rfl dX11_readStep_183 rfl ?_
      refine V_getI 187 69 11 23 (nI (cM K)) (show lx _ _ _ _ 69 23 = _ from by rw [lx_69 (by decide) (by decide) (by decide), ox_69 (by decide)]; exact (hK).2.2.1) flX11_181 rfl rfl rfl (by decide) dX11_readStep_184 rfl ?_
      refine V_iconst 188 (1) rfl dX11_readStep_187 rfl ?_
      refine V_isub 189 dX11_readStep_188 rfl ?_
      refine V_callV (K' := 0) (S' := 0) 192 69 11 2 [.int 0, .int ((nI (cM K)) - 1)] mkX11_readNumber lkX11_212 (by decide) rfl rfl (by decide) rfl (Nat.le_of_ble_eq_true rfl) (Nat.le_of_ble_eq_true rfl) (Nat.le_of_ble_eq_true rfl) (Nat.le_of_ble_eq_true rfl) rfl rfl dX11_readStep_189 rfl (c_X11_readNumber (lo := 0) (cnt := cM K) hRM (TxM.ox (o := 6) hT) (by decide) (by omega) (hh_m1 (cM K) (by omega)) he (fun e => absurd rfl e) (fun v189 _ e189 => ?_) (fun k189 a189 ha189 _ e189 => ?_))
      · refine Kq_i (k' := 0) (sl' := 0) rfl rfl ?_
        obtain ⟨-, -, lo189, hi189, -, -, lt189, hz189⟩ := pNum_ok e189
        refine V_iconst 193 (0) rfl dX11_readStep_192 rfl ?_
        refine V_callV (K' := 0) (S' := 0) 196 69 11 3 [.int 3, .int (nI v189), .int 0] mkX11_tellsStep lkX11_302 (by decide) rfl rfl (by decide) rfl (Nat.le_of_ble_eq_true rfl) (Nat.le_of_ble_eq_true rfl) (Nat.le_of_ble_eq_true rfl) (Nat.le_of_ble_eq_true rfl) rfl rfl dX11_readStep_193 rfl (c_X11_tellsStep (x := nI 3) (y := nI v189) (w := nI 0) hRM h34 (by omega) ?_)
        refine Kq_v (k' := 0) (sl' := 0) rfl rfl ?_
        refine V_goto 345 rfl dX11_readStep_196 ?_
        refine V_aload_n 346 1 rfl _ rfl rfl dX11_readStep_345 rfl ?_
        refine V_bipush 348 (59) rfl dX11_readStep_346 rfl ?_
        refine V_callV (K' := 0) (S' := 0) 351 69 11 1 [.int 59] mkX11_sign lkX11_242 (by decide) rfl rfl (by decide) rfl (Nat.le_of_ble_eq_true rfl) (Nat.le_of_ble_eq_true rfl) (Nat.le_of_ble_eq_true rfl) (Nat.le_of_ble_eq_true rfl) rfl rfl dX11_readStep_348 rfl (c_X11_sign (c := 59) hRM (TxM.ox (o := 6) (ts_fr.T hT)) (by decide) (by decide) (enF_z (sk_z he).2.1).2.1 (fun e => absurd rfl e) (fun _ z348 s348 => ?_) (fun _ e348 => ?_))
        · refine Kq_v (k' := 0) (sl' := 0) rfl rfl ?_
          have e348 : pSig t z 59 (sk t z (enF t z (sk t z (enF t z p)))) = .inr (sk t z (sk t z (enF t z (sk t z (enF t z p))) + 1)) := sig_ok z348 s348 (by decide) (by decide)
          have lz348 := (pSig_ok e348).2.2.2
          refine V_ret_v rfl (Nat.le_of_ble_eq_true rfl) (fun h => absurd h (by decide)) (Nat.le_of_ble_eq_true rfl) (hk _ _ _ _ _ (pSs_o (e7.trans (bd_ok (show pOps t z K 3 (nx t z p) = .inr ((v189, 0), _) from (if_neg (by decide)).trans ((if_neg (by decide)).trans ((bd_ok e189).trans ((if_neg (by decide)).trans (if_neg (by decide)))))))) e348) ts_34 (fun i q1 q2 => by rw [show i = n by omega, upS_s]; exact ts_M (by decide)) ts_E ts_fr (Nat.succ_le_of_lt z348) rfl) dX11_readStep_351
        · refine Kq_v (k' := 0) (sl' := 0) rfl rfl ?_
          have nb348 : ¬ nI (sk t z (enF t z (sk t z (enF t z p)))) = -1 := nI_ne (by first | omega | exact Nat.lt_of_le_of_lt (sk_z (t := t) (enF_z (sk_z he).2.1).2.1).2.1 (by omega))
          refine V_ret_v rfl (Nat.le_of_ble_eq_true rfl) (fun h => absurd h (by decide)) (Nat.le_of_ble_eq_true rfl) (hb 1 _ _ _ (pSs_2 (e7.trans (bd_ok (show pOps t z K 3 (nx t z p) = .inr ((v189, 0), _) from (if_neg (by decide)).trans ((if_neg (by decide)).trans ((bd_ok e189).trans ((if_neg (by decide)).trans (if_neg (by decide)))))))) e348) (by decide) (by decide) (by first | omega | exact (sk_z (t := t) (by assumption)).2.1) ts_fr (sk_z (enF_z (sk_z he).2.1).2.1).2.1) dX11_readStep_351
      · refine Kq_i (k' := 0) (sl' := 0) rfl rfl ?_
        have kk189 := pNum_k e189
        have nb189 : ¬ nI (sk t z (enF t z p)) = -1 := nI_ne (by first | omega | exact Nat.lt_of_le_of_lt (sk_z (t := t) he).2.1 (by omega))
        refine V_iconst 193 (0) rfl dX11_readStep_192 rfl ?_
        refine V_callV (K' := 0) (S' := 0) 196 69 11 3 [.int 3, .int 0, .int 0] mkX11_tellsStep lkX11_302 (by decide) rfl rfl (by decide) rfl (Nat.le_of_ble_eq_true rfl) (Nat.le_of_ble_eq_true rfl) (Nat.le_of_ble_eq_true rfl) (Nat.le_of_ble_eq_true rfl) rfl rfl dX11_readStep_193 rfl (c_X11_tellsStepF nb189 ?_)
        refine Kq_v (k' := 0) (sl' := 0) rfl rfl ?_
        refine V_goto 345 rfl dX11_readStep_196 ?_
        refine V_aload_n 346 1 rfl _ rfl rfl dX11_readStep_345 rfl ?_
        refine V_bipush 348 (59) rfl dX11_readStep_346 rfl ?_
        refine V_callV (K' := 0) (S' := 0) 351 69 11 1 [.int 59] mkX11_sign lkX11_242 (by decide) rfl rfl (by decide) rfl (Nat.le_of_ble_eq_true rfl) (Nat.le_of_ble_eq_true rfl) (Nat.le_of_ble_eq_true rfl) (Nat.le_of_ble_eq_true rfl) rfl rfl dX11_readStep_348 rfl (c_X11_sign (c := 59) hRM (TxM.ox (o := 6) hT) (by decide) (by decide) ha189 (fun _ => ?_) (fun e _ _ => absurd e nb189) (fun e _ => absurd e nb189))
        refine Kq_v (k' := 0) (sl' := 0) rfl rfl ?_
        refine V_ret_v rfl (Nat.le_of_ble_eq_true rfl) (fun h => absurd h (by decide)) (Nat.le_of_ble_eq_true rfl) (hb _ _ _ _ (pSs_1 (e7.trans (bd_no (show pOps t z K 3 (nx t z p) = .inl (k189, _) from (if_neg (by decide)).trans ((if_neg (by decide)).trans (bd_no e189)))))) kk189.1 kk189.2 (by omega) FrV.rf ha189) dX11_readStep_351
    · have e7 : pSt (fun _ _ p => .inl (3, p)) t z K n S p = bd (pOps t z K 4 (nx t z p)) (fun x => .inr ((n + 1, upS S n (4, x.1.1, x.1.2, n + 1)), x.2)) := by unfold pSt; rw [ek]; rfl
      refine V_aload_n 1 0 rfl _ rfl rfl dX11_readStep_0 rfl ?_
      refine V_callV (K' := 0) (S' := 0) 4 69 11 0 [] mkX11_word lkX11_227 (by decide) rfl rfl (by decide) rfl (Nat.le_of_ble_eq_true rfl) (Nat.le_of_ble_eq_true rfl) (Nat.le_of_ble_eq_true rfl) (Nat.le_of_ble_eq_true rfl) rfl rfl dX11_readStep_1 rfl (c_X11_word hRM (TxM.ox (o := 6) hT) ha ?_)
      rw [← ep]
      refine Kq_i (k' := 0) (sl' := 0) rfl rfl ?_
      refine V_istore_n 5 [(1, .int (nI (wcF t z p))), (0, rf G 69)] (by decide) rfl rfl dX11_readStep_4 rfl ?_
      refine V_iload_n 6 0 rfl rfl dX11_readStep_5 rfl ?_
      refine V_ldcSw 9 37 rfl rfl dX11_readStep_6 rfl ?_
      refine V_callS (K' := 0) (S' := 0) 12 1 [sr G 37] mkX11_of lkX11_204 rfl (Nat.le_of_ble_eq_true rfl) (Nat.le_of_ble_eq_true rfl) (Nat.le_of_ble_eq_true rfl) (Nat.le_of_ble_eq_true rfl) rfl rfl dX11_readStep_9 rfl (c_X11_of (wdo 37 (by decide) (by decide) (by decide)) ?_)
      refine Kq_i (k' := 0) (sl' := 0) rfl rfl ?_
      refine V_icmp_ne 30 15 rfl dX11_readStep_12 rfl (fun c12 => ?_) (fun c12 => absurd c12 (by rw [ekw]; decide +kernel))
      refine V_iload_n 31 0 rfl rfl dX11_readStep_30 rfl ?_
      refine V_ldcSw 34 38 rfl rfl dX11_readStep_31 rfl ?_
      refine V_callS (K' := 0) (S' := 0) 37 1 [sr G 38] mkX11_of lkX11_204 rfl (Nat.le_of_ble_eq_true rfl) (Nat.le_of_ble_eq_true rfl) (Nat.le_of_ble_eq_true rfl) (Nat.le_of_ble_eq_true rfl) rfl rfl dX11_readStep_34 rfl (c_X11_of (wdo 38 (by decide) (by decide) (by decide)) ?_)
      refine Kq_i (k' := 0) (sl' := 0) rfl rfl ?_
      refine V_icmp_eq 50 40 rfl dX11_readStep_37 rfl (fun c37 => absurd c37 (by rw [ekw]; decide +kernel)) (fun c37 => ?_)
      refine V_iload_n 41 0 rfl rfl dX11_readStep_40 rfl ?_
      refine V_ldcSw 44 39 rfl rfl dX11_readStep_41 rfl ?_
      refine V_callS (K' := 0) (S' := 0) 47 1 [sr G 39] mkX11_of lkX11_204 rfl (Nat.le_of_ble_eq_true rfl) (Nat.le_of_ble_eq_true rfl) (Nat.le_of_ble_eq_true rfl) (Nat.le_of_ble_eq_true rfl) rfl rfl dX11_readStep_44 rfl (c_X11_of (wdo 39 (by decide) (by decide) (by decide)) ?_)
      refine Kq_i (k' := 0) (sl' := 0) rfl rfl ?_
      refine V_icmp_ne 117 50 rfl dX11_readStep_47 rfl (fun c47 => ?_) (fun c47 => absurd c47 (by rw [ekw]; decide +kernel))
      refine V_iload_n 118 0 rfl rfl dX11_readStep_117 rfl ?_
      refine V_ldcSw 121 40 rfl rfl dX11_readStep_118 rfl ?_
      refine V_callS (K' := 0) (S' := 0) 124 1 [sr G 40] mkX11_of lkX11_204 rfl (Nat.le_of_ble_eq_true rfl) (Nat.le_of_ble_eq_true rfl) (Nat.le_of_ble_eq_true rfl) (Nat.le_of_ble_eq_true rfl) rfl rfl dX11_readStep_121 rfl (c_X11_of (wdo 40 (by decide) (by decide) (by decide)) ?_)
      refine Kq_i (k' := 0) (sl' := 0) rfl rfl ?_
      refine V_icmp_eq 147 127 rfl dX11_readStep_124 rfl (fun c124 => absurd c124 (by rw [ekw]; decide +kernel)) (fun c124 => ?_)
      refine V_iload_n 128 0 rfl rfl dX11_readStep_127 rfl ?_
      refine V_ldcSw 131 41 rfl rfl dX11_readStep_128 rfl ?_
      refine V_callS (K' := 0) (S' := 0) 134 1 [sr G 41] mkX11_of lkX11_204 rfl (Nat.le_of_ble_eq_true rfl) (Nat.le_of_ble_eq_true rfl) (Nat.le_of_ble_eq_true rfl) (Nat.le_of_ble_eq_true rfl) rfl rfl dX11_readStep_131 rfl (c_X11_of (wdo 41 (by decide) (by decide) (by decide)) ?_)
      refine Kq_i (k' := 0) (sl' := 0) rfl rfl ?_
      refine V_icmp_eq 147 137 rfl dX11_readStep_134 rfl (fun c134 => absurd c134 (by rw [ekw]; decide +kernel)) (fun c134 => ?_)
      refine V_iload_n 138 0 rfl rfl dX11_readStep_137 rfl ?_
      refine V_ldcSw 141 42 rfl rfl dX11_readStep_138 rfl ?_
      refine V_callS (K' := 0) (S' := 0) 144 1 [sr G 42] mkX11_of lkX11_204 rfl (Nat.le_of_ble_eq_true rfl) (Nat.le_of_ble_eq_true rfl) (Nat.le_of_ble_eq_true rfl) (Nat.le_of_ble_eq_true rfl) rfl rfl dX11_readStep_141 rfl (c_X11_of (wdo 42 (by decide) (by decide) (by decide)) ?_)
      refine Kq_i (k' := 0) (sl' := 0) rfl rfl ?_
      refine V_icmp_ne 199 147 rfl dX11_readStep_144 rfl (fun c144 => ?_) (fun c144 => absurd c144 (by rw [ekw]; decide +kernel))
      refine V_iload_n 200 0 rfl rfl dX11_readStep_199 rfl ?_
      refine V_ldcSw 203 43 rfl rfl dX11_readStep_200 rfl ?_
      refine V_callS (K' := 0) (S' := 0) 206 1 [sr G 43] mkX11_of lkX11_204 rfl (Nat.le_of_ble_eq_true rfl) (Nat.le_of_ble_eq_true rfl) (Nat.le_of_ble_eq_true rfl) (Nat.le_of_ble_eq_true rfl) rfl rfl dX11_readStep_203 rfl (c_X11_of (wdo 43 (by decide) (by decide) (by decide)) ?_)
      refine Kq_i (k' := 0) (sl' := 0) rfl rfl ?_
      refine V_icmp_ne 233 209 rfl dX11_readStep_206 rfl (fun c206 => absurd (show nI (wcF t z p) = nI (ocF 43) from by rw [ekw, o43]) c206) (fun c206 => ?_)
      refine V_aload_n 210 1 rfl _ rfl rfl dX11_readStep_209 rfl ?_
      refine V_callV (K' := 0) (S' := 0) 213 69 11 0 [] mkX11_pass lkX11_236 (by decide) rfl rfl (by decide) rfl (Nat.le_of_ble_eq_true rfl) (Nat.le_of_ble_eq_true rfl) (Nat.le_of_ble_eq_true rfl) (Nat.le_of_ble_eq_true rfl) rfl rfl dX11_readStep_210 rfl (c_X11_pass hRM (TxM.ox (o := 6) hT) hs2 ?_)
      rw [kw]
      refine Kq_v (k' := 0) (sl' := 0) rfl rfl ?_
      refine V_aload_n 214 1 rfl _ rfl rfl dX11_readStep_213 rfl ?_
      refine V_iconst 215 (4) rfl dX11_readStep_214 rfl ?_
      refine V_aload_n 216 1 rfl _ rfl rfl dX11_readStep_215 rfl ?_
      refine V_iconst 217 (0) rfl dX11_readStep_216 rfl ?_
      refine V_aload_n 218 1 rfl _ rfl rfl dX11_readStep_217 rfl ?_
      refine V_getI 221 69 11 21 (nI (cH K)) (show lx _ _ _ _ 69 21 = _ from by rw [lx_69 (by decide) (by decide) (by decide), ox_69 (by decide)]; exact (hK).1) flX11_175 rfl rfl rfl (by decide) dX11_readStep_218 rfl ?_
      refine V_iconst 222 (1) rfl dX11_readStep_221 rfl ?_
      refine V_isub 223 dX11_readStep_222 rfl ?_
      refine V_callV (K' := 0) (S' := 0) 226 69 11 2 [.int 0, .int ((nI (cH K)) - 1)] mkX11_readNumber lkX11_212 (by decide) rfl rfl (by decide) rfl (Nat.le_of_ble_eq_true rfl) (Nat.le_of_ble_eq_true rfl) (Nat.le_of_ble_eq_true rfl) (Nat.le_of_ble_eq_true rfl) rfl rfl dX11_readStep_223 rfl (c_X11_readNumber (lo := 0) (cnt := cH K) hRM (TxM.ox (o := 6) hT) (by decide) (by omega) (hh_m1 (cH K) (by omega)) he (fun e => absurd rfl e) (fun v223 _ e223 => ?_) (fun k223 a223 ha223 _ e223 => ?_))
      · refine Kq_i (k' := 0) (sl' := 0) rfl rfl ?_
        obtain ⟨-, -, lo223, hi223, -, -, lt223, hz223⟩ := pNum_ok e223
        refine V_iconst 227 (0) rfl dX11_readStep_226 rfl ?_
        refine V_callV (K' := 0) (S' := 0) 230 69 11 3 [.int 4, .int (nI v223), .int 0] mkX11_tellsStep lkX11_302 (by decide) rfl rfl (by decide) rfl (Nat.le_of_ble_eq_true rfl) (Nat.le_of_ble_eq_true rfl) (Nat.le_of_ble_eq_true rfl) (Nat.le_of_ble_eq_true rfl) rfl rfl dX11_readStep_227 rfl (c_X11_tellsStep (x := nI 4) (y := nI v223) (w := nI 0) hRM h34 (by omega) ?_)
        refine Kq_v (k' := 0) (sl' := 0) rfl rfl ?_
        refine V_goto 345 rfl dX11_readStep_230 ?_
        refine V_aload_n 346 1 rfl _ rfl rfl dX11_readStep_345 rfl ?_
        refine V_bipush 348 (59) rfl dX11_readStep_346 rfl ?_
        refine V_callV (K' := 0) (S' := 0) 351 69 11 1 [.int 59] mkX11_sign lkX11_242 (by decide) rfl rfl (by decide) rfl (Nat.le_of_ble_eq_true rfl) (Nat.le_of_ble_eq_true rfl) (Nat.le_of_ble_eq_true rfl) (Nat.le_of_ble_eq_true rfl) rfl rfl dX11_readStep_348 rfl (c_X11_sign (c := 59) hRM (TxM.ox (o := 6) (ts_fr.T hT)) (by decide) (by decide) (enF_z (sk_z he).2.1).2.1 (fun e => absurd rfl e) (fun _ z348 s348 => ?_) (fun _ e348 => ?_))
        · refine Kq_v (k' := 0) (sl' := 0) rfl rfl ?_
          have e348 : pSig t z 59 (sk t z (enF t z (sk t z (enF t z p)))) = .inr (sk t z (sk t z (enF t z (sk t z (enF t z p))) + 1)) := sig_ok z348 s348 (by decide) (by decide)
          have lz348 := (pSig_ok e348).2.2.2
          refine V_ret_v rfl (Nat.le_of_ble_eq_true rfl) (fun h => absurd h (by decide)) (Nat.le_of_ble_eq_true rfl) (hk _ _ _ _ _ (pSs_o (e7.trans (bd_ok (show pOps t z K 4 (nx t z p) = .inr ((v223, 0), _) from (if_neg (by decide)).trans ((if_pos rfl).trans (bd_ok e223))))) e348) ts_34 (fun i q1 q2 => by rw [show i = n by omega, upS_s]; exact ts_M (by decide)) ts_E ts_fr (Nat.succ_le_of_lt z348) rfl) dX11_readStep_351
        · refine Kq_v (k' := 0) (sl' := 0) rfl rfl ?_
          have nb348 : ¬ nI (sk t z (enF t z (sk t z (enF t z p)))) = -1 := nI_ne (by first | omega | exact Nat.lt_of_le_of_lt (sk_z (t := t) (enF_z (sk_z he).2.1).2.1).2.1 (by omega))
          refine V_ret_v rfl (Nat.le_of_ble_eq_true rfl) (fun h => absurd h (by decide)) (Nat.le_of_ble_eq_true rfl) (hb 1 _ _ _ (pSs_2 (e7.trans (bd_ok (show pOps t z K 4 (nx t z p) = .inr ((v223, 0), _) from (if_neg (by decide)).trans ((if_pos rfl).trans (bd_ok e223))))) e348) (by decide) (by decide) (by first | omega | exact (sk_z (t := t) (by assumption)).2.1) ts_fr (sk_z (enF_z (sk_z he).2.1).2.1).2.1) dX11_readStep_351
      · refine Kq_i (k' := 0) (sl' := 0) rfl rfl ?_
        have kk223 := pNum_k e223
        have nb223 : ¬ nI (sk t z (enF t z p)) = -1 := nI_ne (by first | omega | exact Nat.lt_of_le_of_lt (sk_z (t := t) he).2.1 (by omega))
        refine V_iconst 227 (0) rfl dX11_readStep_226 rfl ?_
        refine V_callV (K' := 0) (S' := 0) 230 69 11 3 [.int 4, .int 0, .int 0] mkX11_tellsStep lkX11_302 (by decide) rfl rfl (by decide) rfl (Nat.le_of_ble_eq_true rfl) (Nat.le_of_ble_eq_true rfl) (Nat.le_of_ble_eq_true rfl) (Nat.le_of_ble_eq_true rfl) rfl rfl dX11_readStep_227 rfl (c_X11_tellsStepF nb223 ?_)
        refine Kq_v (k' := 0) (sl' := 0) rfl rfl ?_
        refine V_goto 345 rfl dX11_readStep_230 ?_
        refine V_aload_n 346 1 rfl _ rfl rfl dX11_readStep_345 rfl ?_
        refine V_bipush 348 (59) rfl dX11_readStep_346 rfl ?_
        refine V_callV (K' := 0) (S' := 0) 351 69 11 1 [.int 59] mkX11_sign lkX11_242 (by decide) rfl rfl (by decide) rfl (Nat.le_of_ble_eq_true rfl) (Nat.le_of_ble_eq_true rfl) (Nat.le_of_ble_eq_true rfl) (Nat.le_of_ble_eq_true rfl) rfl rfl dX11_readStep_348 rfl (c_X11_sign (c := 59) hRM (TxM.ox (o := 6) hT) (by decide) (by decide) ha223 (fun _ => ?_) (fun e _ _ => absurd e nb223) (fun e _ => absurd e nb223))
        refine Kq_v (k' := 0) (sl' := 0) rfl rfl ?_
        refine V_ret_v rfl (Nat.le_of_ble_eq_true rfl) (fun h => absurd h (by decide)) (Nat.le_of_ble_eq_true rfl) (hb _ _ _ _ (pSs_1 (e7.trans (bd_no (show pOps t z K 4 (nx t z p) = .inl (k223, _) from (if_neg (by decide)).trans ((if_pos rfl).trans (bd_no e223)))))) kk223.1 kk223.2 (by omega) FrV.rf ha223) dX11_readStep_351
    · have e7 : pSt (fun _ _ p => .inl (3, p)) t z K n S p = bd (pOps t z K 5 (nx t z p)) (fun x => .inr ((n + 1, upS S n (5, x.1.1, x.1.2, n + 1)), x.2)) := by unfold pSt; rw [ek]; rfl
      refine V_aload_n 1 0 rfl _ rfl rfl dX11_readStep_0 rfl ?_
      refine V_callV (K' := 0) (S' := 0) 4 69 11 0 [] mkX11_word lkX11_227 (by decide) rfl rfl (by decide) rfl (Nat.le_of_ble_eq_true rfl) (Nat.le_of_ble_eq_true rfl) (Nat.le_of_ble_eq_true rfl) (Nat.le_of_ble_eq_true rfl) rfl rfl dX11_readStep_1 rfl (c_X11_word hRM (TxM.ox (o := 6) hT) ha ?_)
      rw [← ep]
      refine Kq_i (k' := 0) (sl' := 0) rfl rfl ?_
      refine V_istore_n 5 [(1, .int (nI (wcF t z p))), (0, rf G 69)] (by decide) rfl rfl dX11_readStep_4 rfl ?_
      refine V_iload_n 6 0 rfl rfl dX11_readStep_5 rfl ?_
      refine V_ldcSw 9 37 rfl rfl dX11_readStep_6 rfl ?_
      refine V_callS (K' := 0) (S' := 0) 12 1 [sr G 37] mkX11_of lkX11_204 rfl (Nat.le_of_ble_eq_true rfl) (Nat.le_of_ble_eq_true rfl) (Nat.le_of_ble_eq_true rfl) (Nat.le_of_ble_eq_true rfl) rfl rfl dX11_readStep_9 rfl (c_X11_of (wdo 37 (by decide) (by decide) (by decide)) ?_)
      refine Kq_i (k' := 0) (sl' := 0) rfl rfl ?_
      refine V_icmp_ne 30 15 rfl dX11_readStep_12 rfl (fun c12 => ?_) (fun c12 => absurd c12 (by rw [ekw]; decide +kernel))
      refine V_iload_n 31 0 rfl rfl dX11_readStep_30 rfl ?_
      refine V_ldcSw 34 38 rfl rfl dX11_readStep_31 rfl ?_
      refine V_callS (K' := 0) (S' := 0) 37 1 [sr G 38] mkX11_of lkX11_204 rfl (Nat.le_of_ble_eq_true rfl) (Nat.le_of_ble_eq_true rfl) (Nat.le_of_ble_eq_true rfl) (Nat.le_of_ble_eq_true rfl) rfl rfl dX11_readStep_34 rfl (c_X11_of (wdo 38 (by decide) (by decide) (by decide)) ?_)
      refine Kq_i (k' := 0) (sl' := 0) rfl rfl ?_
      refine V_icmp_eq 50 40 rfl dX11_readStep_37 rfl (fun c37 => absurd c37 (by rw [ekw]; decide +kernel)) (fun c37 => ?_)
      refine V_iload_n 41 0 rfl rfl dX11_readStep_40 rfl ?_
      refine V_ldcSw 44 39 rfl rfl dX11_readStep_41 rfl ?_
      refine V_callS (K' := 0) (S' := 0) 47 1 [sr G 39] mkX11_of lkX11_204 rfl (Nat.le_of_ble_eq_true rfl) (Nat.le_of_ble_eq_true rfl) (Nat.le_of_ble_eq_true rfl) (Nat.le_of_ble_eq_true rfl) rfl rfl dX11_readStep_44 rfl (c_X11_of (wdo 39 (by decide) (by decide) (by decide)) ?_)
      refine Kq_i (k' := 0) (sl' := 0) rfl rfl ?_
      refine V_icmp_ne 117 50 rfl dX11_readStep_47 rfl (fun c47 => ?_) (fun c47 => absurd c47 (by rw [ekw]; decide +kernel))
      refine V_iload_n 118 0 rfl rfl dX11_readStep_117 rfl ?_
      refine V_ldcSw 121 40 rfl rfl dX11_readStep_118 rfl ?_
      refine V_callS (K' := 0) (S' := 0) 124 1 [sr G 40] mkX11_of lkX11_204 rfl (Nat.le_of_ble_eq_true rfl) (Nat.le_of_ble_eq_true rfl) (Nat.le_of_ble_eq_true rfl) (Nat.le_of_ble_eq_true rfl) rfl rfl dX11_readStep_121 rfl (c_X11_of (wdo 40 (by decide) (by decide) (by decide)) ?_)
      refine Kq_i (k' := 0) (sl' := 0) rfl rfl ?_
      refine V_icmp_eq 147 127 rfl dX11_readStep_124 rfl (fun c124 => absurd c124 (by rw [ekw]; decide +kernel)) (fun c124 => ?_)
      refine V_iload_n 128 0 rfl rfl dX11_readStep_127 rfl ?_
      refine V_ldcSw 131 41 rfl rfl dX11_readStep_128 rfl ?_
      refine V_callS (K' := 0) (S' := 0) 134 1 [sr G 41] mkX11_of lkX11_204 rfl (Nat.le_of_ble_eq_true rfl) (Nat.le_of_ble_eq_true rfl) (Nat.le_of_ble_eq_true rfl) (Nat.le_of_ble_eq_true rfl) rfl rfl dX11_readStep_131 rfl (c_X11_of (wdo 41 (by decide) (by decide) (by decide)) ?_)
      refine Kq_i (k' := 0) (sl' := 0) rfl rfl ?_
      refine V_icmp_eq 147 137 rfl dX11_readStep_134 rfl (fun c134 => absurd c134 (by rw [ekw]; decide +kernel)) (fun c134 => ?_)
      refine V_iload_n 138 0 rfl rfl dX11_readStep_137 rfl ?_
      refine V_ldcSw 141 42 rfl rfl dX11_readStep_138 rfl ?_
      refine V_callS (K' := 0) (S' := 0) 144 1 [sr G 42] mkX11_of lkX11_204 rfl (Nat.le_of_ble_eq_true rfl) (Nat.le_of_ble_eq_true rfl) (Nat.le_of_ble_eq_true rfl) (Nat.le_of_ble_eq_true rfl) rfl rfl dX11_readStep_141 rfl (c_X11_of (wdo 42 (by decide) (by decide) (by decide)) ?_)
      refine Kq_i (k' := 0) (sl' := 0) rfl rfl ?_
      refine V_icmp_ne 199 147 rfl dX11_readStep_144 rfl (fun c144 => absurd (show nI (wcF t z p) = nI (ocF 42) from by rw [ekw, o42]) c144) (fun c144 => ?_)
      refine V_aload_n 148 1 rfl _ rfl rfl dX11_readStep_147 rfl ?_
      refine V_callV (K' := 0) (S' := 0) 151 69 11 0 [] mkX11_pass lkX11_236 (by decide) rfl rfl (by decide) rfl (Nat.le_of_ble_eq_true rfl) (Nat.le_of_ble_eq_true rfl) (Nat.le_of_ble_eq_true rfl) (Nat.le_of_ble_eq_true rfl) rfl rfl dX11_readStep_148 rfl (c_X11_pass hRM (TxM.ox (o := 6) hT) hs2 ?_)
      rw [kw]
      refine Kq_v (k' := 0) (sl' := 0) rfl rfl ?_
      refine V_aload_n 152 1 rfl _ rfl rfl dX11_readStep_151 rfl ?_
      refine V_iload_n 153 0 rfl rfl dX11_readStep_152 rfl ?_
      refine V_ldcSw 156 40 rfl rfl dX11_readStep_153 rfl ?_
      refine V_callS (K' := 0) (S' := 0) 159 1 [sr G 40] mkX11_of lkX11_204 rfl (Nat.le_of_ble_eq_true rfl) (Nat.le_of_ble_eq_true rfl) (Nat.le_of_ble_eq_true rfl) (Nat.le_of_ble_eq_true rfl) rfl rfl dX11_readStep_156 rfl (c_X11_of (wdo 40 (by decide) (by decide) (by decide)) ?_)
      refine Kq_i (k' := 0) (sl' := 0) rfl rfl ?_
      refine V_icmp_ne 166 162 rfl dX11_readStep_159 rfl (fun c159 => ?_) (fun c159 => absurd c159 (by rw [ekw]; decide +kernel))
      refine V_iload_n 167 0 rfl rfl dX11_readStep_166 rfl ?_
      refine V_ldcSw 170 41 rfl rfl dX11_readStep_167 rfl ?_
      refine V_callS (K' := 0) (S' := 0) 173 1 [sr G 41] mkX11_of lkX11_204 rfl (Nat.le_of_ble_eq_true rfl) (Nat.le_of_ble_eq_true rfl) (Nat.le_of_ble_eq_true rfl) (Nat.le_of_ble_eq_true rfl) rfl rfl dX11_readStep_170 rfl (c_X11_of (wdo 41 (by decide) (by decide) (by decide)) ?_)
      refine Kq_i (k' := 0) (sl' := 0) rfl rfl ?_
      refine V_icmp_ne 180 176 rfl dX11_readStep_173 rfl (fun c173 => ?_) (fun c173 => absurd c173 (by rw [ekw]; decide +kernel))
      refine V_iconst 181 (5) rfl dX11_readStep_180 rfl ?_
      refine V_aload_n 182 1 rfl _ rfl rfl dX11_readStep_181 rfl ?_
      refine V_iconst 183 (0) rfl dX11_readStep_182 rfl ?_
      refine V_aload_n 184 1 rfl _ rfl rfl dX11_readStep_183 rfl ?_
      refine V_getI 187 69 11 23 (nI (cM K)) (show lx _ _ _ _ 69 23 = _ from by rw [lx_69 (by decide) (by decide) (by decide), ox_69 (by decide)]; exact (hK).2.2.1) flX11_181 rfl rfl rfl (by decide) dX11_readStep_184 rfl ?_
      refine V_iconst 188 (1) rfl dX11_readStep_187 rfl ?_
      refine V_isub 189 dX11_readStep_188 rfl ?_
      refine V_callV (K' := 0) (S' := 0) 192 69 11 2 [.int 0, .int ((nI (cM K)) - 1)] mkX11_readNumber lkX11_212 (by decide) rfl rfl (by decide) rfl (Nat.le_of_ble_eq_true rfl) (Nat.le_of_ble_eq_true rfl) (Nat.le_of_ble_eq_true rfl) (Nat.le_of_ble_eq_true rfl) rfl rfl dX11_readStep_189 rfl (c_X11_readNumber (lo := 0) (cnt := cM K) hRM (TxM.ox (o := 6) hT) (by decide) (by omega) (hh_m1 (cM K) (by omega)) he (fun e => absurd rfl e) (fun v189 _ e189 => ?_) (fun k189 a189 ha189 _ e189 => ?_))
      · refine Kq_i (k' := 0) (sl' := 0) rfl rfl ?_
        obtain ⟨-, -, lo189, hi189, -, -, lt189, hz189⟩ := pNum_ok e189
        refine V_iconst 193 (0) rfl dX11_readStep_192 rfl ?_
        refine V_callV (K' := 0) (S' := 0) 196 69 11 3 [.int 5, .int (nI v189), .int 0] mkX11_tellsStep lkX11_302 (by decide) rfl rfl (by decide) rfl (Nat.le_of_ble_eq_true rfl) (Nat.le_of_ble_eq_true rfl) (Nat.le_of_ble_eq_true rfl) (Nat.le_of_ble_eq_true rfl) rfl rfl dX11_readStep_193 rfl (c_X11_tellsStep (x := nI 5) (y := nI v189) (w := nI 0) hRM h34 (by omega) ?_)
        refine Kq_v (k' := 0) (sl' := 0) rfl rfl ?_
        refine V_goto 345 rfl dX11_readStep_196 ?_
        refine V_aload_n 346 1 rfl _ rfl rfl dX11_readStep_345 rfl ?_
        refine V_bipush 348 (59) rfl dX11_readStep_346 rfl ?_
        refine V_callV (K' := 0) (S' := 0) 351 69 11 1 [.int 59] mkX11_sign lkX11_242 (by decide) rfl rfl (by decide) rfl (Nat.le_of_ble_eq_true rfl) (Nat.le_of_ble_eq_true rfl) (Nat.le_of_ble_eq_true rfl) (Nat.le_of_ble_eq_true rfl) rfl rfl dX11_readStep_348 rfl (c_X11_sign (c := 59) hRM (TxM.ox (o := 6) (ts_fr.T hT)) (by decide) (by decide) (enF_z (sk_z he).2.1).2.1 (fun e => absurd rfl e) (fun _ z348 s348 => ?_) (fun _ e348 => ?_))
        · refine Kq_v (k' := 0) (sl' := 0) rfl rfl ?_
          have e348 : pSig t z 59 (sk t z (enF t z (sk t z (enF t z p)))) = .inr (sk t z (sk t z (enF t z (sk t z (enF t z p))) + 1)) := sig_ok z348 s348 (by decide) (by decide)
          have lz348 := (pSig_ok e348).2.2.2
          refine V_ret_v rfl (Nat.le_of_ble_eq_true rfl) (fun h => absurd h (by decide)) (Nat.le_of_ble_eq_true rfl) (hk _ _ _ _ _ (pSs_o (e7.trans (bd_ok (show pOps t z K 5 (nx t z p) = .inr ((v189, 0), _) from (if_neg (by decide)).trans ((if_neg (by decide)).trans ((bd_ok e189).trans ((if_neg (by decide)).trans (if_neg (by decide)))))))) e348) ts_34 (fun i q1 q2 => by rw [show i = n by omega, upS_s]; exact ts_M (by decide)) ts_E ts_fr (Nat.succ_le_of_lt z348) rfl) dX11_readStep_351
        · refine Kq_v (k' := 0) (sl' := 0) rfl rfl ?_
          have nb348 : ¬ nI (sk t z (enF t z (sk t z (enF t z p)))) = -1 := nI_ne (by first | omega | exact Nat.lt_of_le_of_lt (sk_z (t := t) (enF_z (sk_z he).2.1).2.1).2.1 (by omega))
          refine V_ret_v rfl (Nat.le_of_ble_eq_true rfl) (fun h => absurd h (by decide)) (Nat.le_of_ble_eq_true rfl) (hb 1 _ _ _ (pSs_2 (e7.trans (bd_ok (show pOps t z K 5 (nx t z p) = .inr ((v189, 0), _) from (if_neg (by decide)).trans ((if_neg (by decide)).trans ((bd_ok e189).trans ((if_neg (by decide)).trans (if_neg (by decide)))))))) e348) (by decide) (by decide) (by first | omega | exact (sk_z (t := t) (by assumption)).2.1) ts_fr (sk_z (enF_z (sk_z he).2.1).2.1).2.1) dX11_readStep_351
      · refine Kq_i (k' := 0) (sl' := 0) rfl rfl ?_
        have kk189 := pNum_k e189
        have nb189 : ¬ nI (sk t z (enF t z p)) = -1 := nI_ne (by first | omega | exact Nat.lt_of_le_of_lt (sk_z (t := t) he).2.1 (by omega))
        refine V_iconst 193 (0) rfl dX11_readStep_192 rfl ?_
        refine V_callV (K' := 0) (S' := 0) 196 69 11 3 [.int 5, .int 0, .int 0] mkX11_tellsStep lkX11_302 (by decide) rfl rfl (by decide) rfl (Nat.le_of_ble_eq_true rfl) (Nat.le_of_ble_eq_true rfl) (Nat.le_of_ble_eq_true rfl) (Nat.le_of_ble_eq_true rfl) rfl rfl dX11_readStep_193 rfl (c_X11_tellsStepF nb189 ?_)
        refine Kq_v (k' := 0) (sl' := 0) rfl rfl ?_
        refine V_goto 345 rfl dX11_readStep_196 ?_
        refine V_aload_n 346 1 rfl _ rfl rfl dX11_readStep_345 rfl ?_
        refine V_bipush 348 (59) rfl dX11_readStep_346 rfl ?_
        refine V_callV (K' := 0) (S' := 0) 351 69 11 1 [.int 59] mkX11_sign lkX11_242 (by decide) rfl rfl (by decide) rfl (Nat.le_of_ble_eq_true rfl) (Nat.le_of_ble_eq_true rfl) (Nat.le_of_ble_eq_true rfl) (Nat.le_of_ble_eq_true rfl) rfl rfl dX11_readStep_348 rfl (c_X11_sign (c := 59) hRM (TxM.ox (o := 6) hT) (by decide) (by decide) ha189 (fun _ => ?_) (fun e _ _ => absurd e nb189) (fun e _ => absurd e nb189))
        refine Kq_v (k' := 0) (sl' := 0) rfl rfl ?_
        refine V_ret_v rfl (Nat.le_of_ble_eq_true rfl) (fun h => absurd h (by decide)) (Nat.le_of_ble_eq_true rfl) (hb _ _ _ _ (pSs_1 (e7.trans (bd_no (show pOps t z K 5 (nx t z p) = .inl (k189, _) from (if_neg (by decide)).trans ((if_neg (by decide)).trans (bd_no e189)))))) kk189.1 kk189.2 (by omega) FrV.rf ha189) dX11_readStep_351
    · have e7 : pSt (fun _ _ p => .inl (3, p)) t z K n S p = bd (pOps t z K 6 (nx t z p)) (fun x => .inr ((n + 1, upS S n (6, x.1.1, x.1.2, n + 1)), x.2)) := by unfold pSt; rw [ek]; rfl
      refine V_aload_n 1 0 rfl _ rfl rfl dX11_readStep_0 rfl ?_
      refine V_callV (K' := 0) (S' := 0) 4 69 11 0 [] mkX11_word lkX11_227 (by decide) rfl rfl (by decide) rfl (Nat.le_of_ble_eq_true rfl) (Nat.le_of_ble_eq_true rfl) (Nat.le_of_ble_eq_true rfl) (Nat.le_of_ble_eq_true rfl) rfl rfl dX11_readStep_1 rfl (c_X11_word hRM (TxM.ox (o := 6) hT) ha ?_)
      rw [← ep]
      refine Kq_i (k' := 0) (sl' := 0) rfl rfl ?_
      refine V_istore_n 5 [(1, .int (nI (wcF t z p))), (0, rf G 69)] (by decide) rfl rfl dX11_readStep_4 rfl ?_
      refine V_iload_n 6 0 rfl rfl dX11_readStep_5 rfl ?_
      refine V_ldcSw 9 37 rfl rfl dX11_readStep_6 rfl ?_
      refine V_callS (K' := 0) (S' := 0) 12 1 [sr G 37] mkX11_of lkX11_204 rfl (Nat.le_of_ble_eq_true rfl) (Nat.le_of_ble_eq_true rfl) (Nat.le_of_ble_eq_true rfl) (Nat.le_of_ble_eq_true rfl) rfl rfl dX11_readStep_9 rfl (c_X11_of (wdo 37 (by decide) (by decide) (by decide)) ?_)
      refine Kq_i (k' := 0) (sl' := 0) rfl rfl ?_
      refine V_icmp_ne 30 15 rfl dX11_readStep_12 rfl (fun c12 => absurd (show nI (wcF t z p) = nI (ocF 37) from by rw [ekw, o37]) c12) (fun c12 => ?_)
      refine V_aload_n 16 1 rfl _ rfl rfl dX11_readStep_15 rfl ?_
      refine V_callV (K' := 0) (S' := 0) 19 69 11 0 [] mkX11_pass lkX11_236 (by decide) rfl rfl (by decide) rfl (Nat.le_of_ble_eq_true rfl) (Nat.le_of_ble_eq_true rfl) (Nat.le_of_ble_eq_true rfl) (Nat.le_of_ble_eq_true rfl) rfl rfl dX11_readStep_16 rfl (c_X11_pass hRM (TxM.ox (o := 6) hT) hs2 ?_)
      rw [kw]
      refine Kq_v (k' := 0) (sl' := 0) rfl rfl ?_
      refine V_aload_n 20 1 rfl _ rfl rfl dX11_readStep_19 rfl ?_
      refine V_bipush 22 (6) rfl dX11_readStep_20 rfl ?_
      refine V_iconst 23 (0) rfl dX11_readStep_22 rfl ?_
      refine V_iconst 24 (0) rfl dX11_readStep_23 rfl ?_
      refine V_callV (K' := 0) (S' := 0) 27 69 11 3 [.int 6, .int 0, .int 0] mkX11_tellsStep lkX11_302 (by decide) rfl rfl (by decide) rfl (Nat.le_of_ble_eq_true rfl) (Nat.le_of_ble_eq_true rfl) (Nat.le_of_ble_eq_true rfl) (Nat.le_of_ble_eq_true rfl) rfl rfl dX11_readStep_24 rfl (c_X11_tellsStep (x := nI 6) (y := nI 0) (w := nI 0) hRM h34 (by omega) ?_)
      refine Kq_v (k' := 0) (sl' := 0) rfl rfl ?_
      refine V_goto 345 rfl dX11_readStep_27 ?_
      refine V_aload_n 346 1 rfl _ rfl rfl dX11_readStep_345 rfl ?_
      refine V_bipush 348 (59) rfl dX11_readStep_346 rfl ?_
      refine V_callV (K' := 0) (S' := 0) 351 69 11 1 [.int 59] mkX11_sign lkX11_242 (by decide) rfl rfl (by decide) rfl (Nat.le_of_ble_eq_true rfl) (Nat.le_of_ble_eq_true rfl) (Nat.le_of_ble_eq_true rfl) (Nat.le_of_ble_eq_true rfl) rfl rfl dX11_readStep_348 rfl (c_X11_sign (c := 59) hRM (TxM.ox (o := 6) (ts_fr.T hT)) (by decide) (by decide) he (fun e => absurd rfl e) (fun _ z348 s348 => ?_) (fun _ e348 => ?_))
      · refine Kq_v (k' := 0) (sl' := 0) rfl rfl ?_
        have e348 : pSig t z 59 (sk t z (enF t z p)) = .inr (sk t z (sk t z (enF t z p) + 1)) := sig_ok z348 s348 (by decide) (by decide)
        have lz348 := (pSig_ok e348).2.2.2
        refine V_ret_v rfl (Nat.le_of_ble_eq_true rfl) (fun h => absurd h (by decide)) (Nat.le_of_ble_eq_true rfl) (hk _ _ _ _ _ (pSs_o (e7.trans (bd_ok (show pOps t z K 6 (nx t z p) = .inr ((0, 0), _) from if_pos rfl))) e348) ts_34 (fun i q1 q2 => by rw [show i = n by omega, upS_s]; exact ts_M (by decide)) ts_E ts_fr (Nat.succ_le_of_lt z348) rfl) dX11_readStep_351
      · refine Kq_v (k' := 0) (sl' := 0) rfl rfl ?_
        have nb348 : ¬ nI (sk t z (enF t z p)) = -1 := nI_ne (by first | omega | exact Nat.lt_of_le_of_lt (sk_z (t := t) he).2.1 (by omega))
        refine V_ret_v rfl (Nat.le_of_ble_eq_true rfl) (fun h => absurd h (by decide)) (Nat.le_of_ble_eq_true rfl) (hb 1 _ _ _ (pSs_2 (e7.trans (bd_ok (show pOps t z K 6 (nx t z p) = .inr ((0, 0), _) from if_pos rfl))) e348) (by decide) (by decide) (by first | omega | exact (sk_z (t := t) (by assumption)).2.1) ts_fr (sk_z he).2.1) dX11_readStep_351
    · have e7 : pSt (fun _ _ p => .inl (3, p)) t z K n S p = .inl (3, p) := by unfold pSt; rw [ek]; rfl
      have hy : p + 5 = enF t z p := by have q := ((wc_iff hs2 (wdo 22 (by decide) (by decide) (by decide))).mp ekw).1; rw [show stL 22 = 5 from rfl] at q; omega
      have nb : ¬ nI p = -1 := nI_ne (by omega)
      refine V_aload_n 1 0 rfl _ rfl rfl dX11_readStep_0 rfl ?_
      refine V_callV (K' := 0) (S' := 0) 4 69 11 0 [] mkX11_word lkX11_227 (by decide) rfl rfl (by decide) rfl (Nat.le_of_ble_eq_true rfl) (Nat.le_of_ble_eq_true rfl) (Nat.le_of_ble_eq_true rfl) (Nat.le_of_ble_eq_true rfl) rfl rfl dX11_readStep_1 rfl (c_X11_word hRM (TxM.ox (o := 6) hT) ha ?_)
      rw [← ep]
      refine Kq_i (k' := 0) (sl' := 0) rfl rfl ?_
      refine V_istore_n 5 [(1, .int (nI (wcF t z p))), (0, rf G 69)] (by decide) rfl rfl dX11_readStep_4 rfl ?_
      refine V_iload_n 6 0 rfl rfl dX11_readStep_5 rfl ?_
      refine V_ldcSw 9 37 rfl rfl dX11_readStep_6 rfl ?_
      refine V_callS (K' := 0) (S' := 0) 12 1 [sr G 37] mkX11_of lkX11_204 rfl (Nat.le_of_ble_eq_true rfl) (Nat.le_of_ble_eq_true rfl) (Nat.le_of_ble_eq_true rfl) (Nat.le_of_ble_eq_true rfl) rfl rfl dX11_readStep_9 rfl (c_X11_of (wdo 37 (by decide) (by decide) (by decide)) ?_)
      refine Kq_i (k' := 0) (sl' := 0) rfl rfl ?_
      refine V_icmp_ne 30 15 rfl dX11_readStep_12 rfl (fun c12 => ?_) (fun c12 => absurd c12 (by rw [ekw]; decide +kernel))
      refine V_iload_n 31 0 rfl rfl dX11_readStep_30 rfl ?_
      refine V_ldcSw 34 38 rfl rfl dX11_readStep_31 rfl ?_
      refine V_callS (K' := 0) (S' := 0) 37 1 [sr G 38] mkX11_of lkX11_204 rfl (Nat.le_of_ble_eq_true rfl) (Nat.le_of_ble_eq_true rfl) (Nat.le_of_ble_eq_true rfl) (Nat.le_of_ble_eq_true rfl) rfl rfl dX11_readStep_34 rfl (c_X11_of (wdo 38 (by decide) (by decide) (by decide)) ?_)
      refine Kq_i (k' := 0) (sl' := 0) rfl rfl ?_
      refine V_icmp_eq 50 40 rfl dX11_readStep_37 rfl (fun c37 => absurd c37 (by rw [ekw]; decide +kernel)) (fun c37 => ?_)
      refine V_iload_n 41 0 rfl rfl dX11_readStep_40 rfl ?_
      refine V_ldcSw 44 39 rfl rfl dX11_readStep_41 rfl ?_
      refine V_callS (K' := 0) (S' := 0) 47 1 [sr G 39] mkX11_of lkX11_204 rfl (Nat.le_of_ble_eq_true rfl) (Nat.le_of_ble_eq_true rfl) (Nat.le_of_ble_eq_true rfl) (Nat.le_of_ble_eq_true rfl) rfl rfl dX11_readStep_44 rfl (c_X11_of (wdo 39 (by decide) (by decide) (by decide)) ?_)
      refine Kq_i (k' := 0) (sl' := 0) rfl rfl ?_
      refine V_icmp_ne 117 50 rfl dX11_readStep_47 rfl (fun c47 => ?_) (fun c47 => absurd c47 (by rw [ekw]; decide +kernel))
      refine V_iload_n 118 0 rfl rfl dX11_readStep_117 rfl ?_
      refine V_ldcSw 121 40 rfl rfl dX11_readStep_118 rfl ?_
      refine V_callS (K' := 0) (S' := 0) 124 1 [sr G 40] mkX11_of lkX11_204 rfl (Nat.le_of_ble_eq_true rfl) (Nat.le_of_ble_eq_true rfl) (Nat.le_of_ble_eq_true rfl) (Nat.le_of_ble_eq_true rfl) rfl rfl dX11_readStep_121 rfl (c_X11_of (wdo 40 (by decide) (by decide) (by decide)) ?_)
      refine Kq_i (k' := 0) (sl' := 0) rfl rfl ?_
      refine V_icmp_eq 147 127 rfl dX11_readStep_124 rfl (fun c124 => absurd c124 (by rw [ekw]; decide +kernel)) (fun c124 => ?_)
      refine V_iload_n 128 0 rfl rfl dX11_readStep_127 rfl ?_
      refine V_ldcSw 131 41 rfl rfl dX11_readStep_128 rfl ?_
      refine V_callS (K' := 0) (S' := 0) 134 1 [sr G 41] mkX11_of lkX11_204 rfl (Nat.le_of_ble_eq_true rfl) (Nat.le_of_ble_eq_true rfl) (Nat.le_of_ble_eq_true rfl) (Nat.le_of_ble_eq_true rfl) rfl rfl dX11_readStep_131 rfl (c_X11_of (wdo 41 (by decide) (by decide) (by decide)) ?_)
      refine Kq_i (k' := 0) (sl' := 0) rfl rfl ?_
      refine V_icmp_eq 147 137 rfl dX11_readStep_134 rfl (fun c134 => absurd c134 (by rw [ekw]; decide +kernel)) (fun c134 => ?_)
      refine V_iload_n 138 0 rfl rfl dX11_readStep_137 rfl ?_
      refine V_ldcSw 141 42 rfl rfl dX11_readStep_138 rfl ?_
      refine V_callS (K' := 0) (S' := 0) 144 1 [sr G 42] mkX11_of lkX11_204 rfl (Nat.le_of_ble_eq_true rfl) (Nat.le_of_ble_eq_true rfl) (Nat.le_of_ble_eq_true rfl) (Nat.le_of_ble_eq_true rfl) rfl rfl dX11_readStep_141 rfl (c_X11_of (wdo 42 (by decide) (by decide) (by decide)) ?_)
      refine Kq_i (k' := 0) (sl' := 0) rfl rfl ?_
      refine V_icmp_ne 199 147 rfl dX11_readStep_144 rfl (fun c144 => ?_) (fun c144 => absurd c144 (by rw [ekw]; decide +kernel))
      refine V_iload_n 200 0 rfl rfl dX11_readStep_199 rfl ?_
      refine V_ldcSw 203 43 rfl rfl dX11_readStep_200 rfl ?_
      refine V_callS (K' := 0) (S' := 0) 206 1 [sr G 43] mkX11_of lkX11_204 rfl (Nat.le_of_ble_eq_true rfl) (Nat.le_of_ble_eq_true rfl) (Nat.le_of_ble_eq_true rfl) (Nat.le_of_ble_eq_true rfl) rfl rfl dX11_readStep_203 rfl (c_X11_of (wdo 43 (by decide) (by decide) (by decide)) ?_)
      refine Kq_i (k' := 0) (sl' := 0) rfl rfl ?_
      refine V_icmp_ne 233 209 rfl dX11_readStep_206 rfl (fun c206 => ?_) (fun c206 => absurd c206 (by rw [ekw]; decide +kernel))
      refine V_iload_n 234 0 rfl rfl dX11_readStep_233 rfl ?_
      refine V_ldcSw 237 44 rfl rfl dX11_readStep_234 rfl ?_
      refine V_callS (K' := 0) (S' := 0) 240 1 [sr G 44] mkX11_of lkX11_204 rfl (Nat.le_of_ble_eq_true rfl) (Nat.le_of_ble_eq_true rfl) (Nat.le_of_ble_eq_true rfl) (Nat.le_of_ble_eq_true rfl) rfl rfl dX11_readStep_237 rfl (c_X11_of (wdo 44 (by decide) (by decide) (by decide)) ?_)
      refine Kq_i (k' := 0) (sl' := 0) rfl rfl ?_
      refine V_icmp_ne 336 243 rfl dX11_readStep_240 rfl (fun c240 => absurd (show nI (wcF t z p) = nI (ocF 44) from by rw [ekw, o44]) c240) (fun c240 => ?_)
      refine V_aload_n 244 1 rfl _ rfl rfl dX11_readStep_243 rfl ?_
      refine V_iconst 245 (5) rfl dX11_readStep_244 rfl ?_
      refine V_callV (K' := 0) (S' := 0) 248 69 11 1 [.int 5] mkX11_opensOne lkX11_261 (by decide) rfl rfl (by decide) rfl (Nat.le_of_ble_eq_true rfl) (Nat.le_of_ble_eq_true rfl) (Nat.le_of_ble_eq_true rfl) (Nat.le_of_ble_eq_true rfl) rfl rfl dX11_readStep_245 rfl (c_X11_opensOne6 (y := 5) rfl (by omega) ?_)
      refine Kq_v (k' := 0) (sl' := 0) rfl rfl ?_
      refine V_aload_n 249 1 rfl _ rfl rfl dX11_readStep_248 rfl ?_
      refine V_iconst 250 (0) rfl dX11_readStep_249 rfl ?_
      refine V_bipush 252 (30) rfl dX11_readStep_250 rfl ?_
      refine V_callV (K' := 0) (S' := 0) 255 69 11 2 [.int 0, .int 30] mkX11_readNumber lkX11_212 (by decide) rfl rfl (by decide) rfl (Nat.le_of_ble_eq_true rfl) (Nat.le_of_ble_eq_true rfl) (Nat.le_of_ble_eq_true rfl) (Nat.le_of_ble_eq_true rfl) rfl rfl dX11_readStep_252 rfl (c_X11_readNumber (lo := 0) (cnt := 31) hRM (TxM.ox (o := 7) hT) (by decide) (by omega) (hh_lit 30 (by decide)) hs2 (fun _ => ?_) (fun _ e _ => absurd e nb) (fun _ _ _ e _ => absurd e nb))
      refine Kq_i (k' := 0) (sl' := 0) rfl rfl ?_
      refine V_istore_n 256 [(2, .int 0), (1, .int (nI (wcF t z p))), (0, rf G 69)] (by decide) rfl rfl dX11_readStep_255 rfl ?_
      refine V_aload_n 257 2 rfl _ rfl rfl dX11_readStep_256 rfl ?_
      refine V_bipush 259 (91) rfl dX11_readStep_257 rfl ?_
      refine V_callV (K' := 0) (S' := 0) 262 69 11 1 [.int 91] mkX11_sign lkX11_242 (by decide) rfl rfl (by decide) rfl (Nat.le_of_ble_eq_true rfl) (Nat.le_of_ble_eq_true rfl) (Nat.le_of_ble_eq_true rfl) (Nat.le_of_ble_eq_true rfl) rfl rfl dX11_readStep_259 rfl (c_X11_sign (c := 91) hRM (TxM.ox (o := 7) hT) (by decide) (by decide) hs2 (fun _ => ?_) (fun e _ _ => absurd e nb) (fun e _ => absurd e nb))
      refine Kq_v (k' := 0) (sl' := 0) rfl rfl ?_
      refine V_aload_n 263 2 rfl _ rfl rfl dX11_readStep_262 rfl ?_
      refine V_getI 266 69 11 34 (nI (3 * n)) (show lx _ _ _ _ 69 34 = _ from by rw [lx_69 (by decide) (by decide) (by decide), ox_69 (by decide)]; exact h34) flX11_299 rfl rfl rfl (by decide) dX11_readStep_263 rfl ?_
      refine V_istore_n 267 [(3, .int (nI (3 * n))), (2, .int 0), (1, .int (nI (wcF t z p))), (0, rf G 69)] (by decide) rfl rfl dX11_readStep_266 rfl ?_
      refine V_aload_n 268 3 rfl _ rfl rfl dX11_readStep_267 rfl ?_
      refine V_bipush 270 (7) rfl dX11_readStep_268 rfl ?_
      refine V_iload_n 271 1 rfl rfl dX11_readStep_270 rfl ?_
      refine V_iconst 272 (0) rfl dX11_readStep_271 rfl ?_
      refine V_callV (K' := 0) (S' := 0) 275 69 11 3 [.int 7, .int 0, .int 0] mkX11_tellsStep lkX11_302 (by decide) rfl rfl (by decide) rfl (Nat.le_of_ble_eq_true rfl) (Nat.le_of_ble_eq_true rfl) (Nat.le_of_ble_eq_true rfl) (Nat.le_of_ble_eq_true rfl) rfl rfl dX11_readStep_272 rfl (c_X11_tellsStepF nb ?_)
      refine Kq_v (k' := 0) (sl' := 0) rfl rfl ?_
      refine V_aload_n 276 3 rfl _ rfl rfl dX11_readStep_275 rfl ?_
      refine V_callV (K' := 0) (S' := 0) 279 69 11 0 [] mkX11_fine lkX11_152 (by decide) rfl rfl (by decide) rfl (Nat.le_of_ble_eq_true rfl) (Nat.le_of_ble_eq_true rfl) (Nat.le_of_ble_eq_true rfl) (Nat.le_of_ble_eq_true rfl) rfl rfl dX11_readStep_276 rfl (c_X11_fine (fun e => absurd e nb) (fun _ => ?_))
      refine Kq_i (k' := 0) (sl' := 0) rfl rfl ?_
      refine V_if_eq 298 282 rfl dX11_readStep_279 rfl (fun c279 => ?_) (fun c279 => absurd c279 (by decide))
      refine V_aload_n 299 3 rfl _ rfl rfl dX11_readStep_298 rfl ?_
      refine V_bipush 301 (93) rfl dX11_readStep_299 rfl ?_
      refine V_callV (K' := 0) (S' := 0) 304 69 11 1 [.int 93] mkX11_sign lkX11_242 (by decide) rfl rfl (by decide) rfl (Nat.le_of_ble_eq_true rfl) (Nat.le_of_ble_eq_true rfl) (Nat.le_of_ble_eq_true rfl) (Nat.le_of_ble_eq_true rfl) rfl rfl dX11_readStep_301 rfl (c_X11_sign (c := 93) hRM (TxM.ox (o := 7) hT) (by decide) (by decide) hs2 (fun _ => ?_) (fun e _ _ => absurd e nb) (fun e _ => absurd e nb))
      refine Kq_v (k' := 0) (sl' := 0) rfl rfl ?_
      refine V_aload_n 305 3 rfl _ rfl rfl dX11_readStep_304 rfl ?_
      refine V_dup 306 rfl dX11_readStep_305 rfl ?_
      refine V_getI 309 69 11 7 (nI 7) (show lx _ _ _ _ 69 7 = _ from by rw [lx_69 (by decide) (by decide) (by decide)]; exact ox_7) flX11_163 rfl rfl rfl (by decide) dX11_readStep_306 rfl ?_
      refine V_iconst 310 (1) rfl dX11_readStep_309 rfl ?_
      refine V_isub 311 dX11_readStep_310 rfl ?_
      refine V_rw (show _ = nI 6 from by decide) ?_
      refine V_putI 314 69 11 7 flX11_163 rfl rfl rfl (by decide) rfl dX11_readStep_311 rfl ?_
      rw [lx_up (fun _ => by decide), ox_ox]
      refine V_aload_n 315 3 rfl _ rfl rfl dX11_readStep_314 rfl ?_
      refine V_callV (K' := 0) (S' := 0) 318 69 11 0 [] mkX11_fine lkX11_152 (by decide) rfl rfl (by decide) rfl (Nat.le_of_ble_eq_true rfl) (Nat.le_of_ble_eq_true rfl) (Nat.le_of_ble_eq_true rfl) (Nat.le_of_ble_eq_true rfl) rfl rfl dX11_readStep_315 rfl (c_X11_fine (fun e => absurd e nb) (fun _ => ?_))
      refine Kq_i (k' := 0) (sl' := 0) rfl rfl ?_
      refine V_if_eq 333 321 rfl dX11_readStep_318 rfl (fun c318 => ?_) (fun c318 => absurd c318 (by decide))
      refine V_goto 345 rfl dX11_readStep_333 ?_
      refine V_aload_n 346 3 rfl _ rfl rfl dX11_readStep_345 rfl ?_
      refine V_bipush 348 (59) rfl dX11_readStep_346 rfl ?_
      refine V_callV (K' := 0) (S' := 0) 351 69 11 1 [.int 59] mkX11_sign lkX11_242 (by decide) rfl rfl (by decide) rfl (Nat.le_of_ble_eq_true rfl) (Nat.le_of_ble_eq_true rfl) (Nat.le_of_ble_eq_true rfl) (Nat.le_of_ble_eq_true rfl) rfl rfl dX11_readStep_348 rfl (c_X11_sign (c := 59) hRM (TxM.ox (o := 6) hT) (by decide) (by decide) hs2 (fun _ => ?_) (fun e _ _ => absurd e nb) (fun e _ => absurd e nb))
      refine Kq_v (k' := 0) (sl' := 0) rfl rfl ?_
      refine V_ret_v rfl (Nat.le_of_ble_eq_true rfl) (fun h => absurd h (by decide)) (Nat.le_of_ble_eq_true rfl) (hb 3 p I p (pSs_1 e7) (by decide) (by decide) hs2 FrV.rf hs2) dX11_readStep_351
set_option maxHeartbeats 16000000 in
theorem c_X11_readStepS {G : Gx} {t : Nat → Nat} {z D0 : Nat} {K : CO} {u : Nat → SR → Nat → WR} {lev : Nat} (hlev : lev < 6) (hz0 : ∀ {p1 : Nat}, z ≤ p1 → ∀ n S, u n S p1 = .inl (1, p1)) (hOk : OkW t z K lev 0 u) (hU : WMt G D0 (6 - lev) t z K u) : WMt G (D0 + 20) (6 - (lev + 1)) t z K (pSs (pSt (pAg (pBo u t z (z + 1)) t z) t z K) t z) := by
  intro d I R J Q a n S k hd hRM hT h150 hK hW ha h5 h34 hk hb
  obtain ⟨m, rfl⟩ : ∃ m, d = m + 20 := ⟨d - 20, by omega⟩
  have h6 := hT.2.1
  have h8 := hW.1
  have hg6 := hW.2.1
  have hm6 := hW.2.2.1
  obtain ⟨hs1, hs2, hs3⟩ := sk_z (t := t) ha
  have esk := sk_sk (t := t) ha
  obtain ⟨p, ep⟩ : ∃ p, p = sk t z a := ⟨_, rfl⟩
  rw [← ep] at h5 hk hb hs1 hs2 esk
  obtain ⟨o37, o38, o39, o40, o41, o42, o43, o44⟩ := oc_w
  have nxe : nx t z p = sk t z (enF t z p) := rfl
  obtain ⟨o, eo⟩ : ∃ o, o = 6 - (lev + 1) := ⟨_, rfl⟩
  have eo1 : 6 - lev = o + 1 := by omega
  rw [eo1] at hU
  rw [← eo] at hk hb ⊢
  show V _ _ _ _ _ _ _ _ [(0, rf G 69)] [] _ _ _ _ _
  cases ek : kwF t z p with
  | none =>
    have kn := kw_none ek
    have e7 : pSt (pAg (pBo u t z (z + 1)) t z) t z K n S p = .inl (1, p) := by unfold pSt; rw [ek]
    have nb : ¬ nI p = -1 := nI_ne (by omega)
    refine V_aload_n 1 0 rfl _ rfl rfl dX11_readStep_0 rfl ?_
    refine V_callV (K' := 0) (S' := 0) 4 69 11 0 [] mkX11_word lkX11_227 (by decide) rfl rfl (by decide) rfl (Nat.le_of_ble_eq_true rfl) (Nat.le_of_ble_eq_true rfl) (Nat.le_of_ble_eq_true rfl) (Nat.le_of_ble_eq_true rfl) rfl rfl dX11_readStep_1 rfl (c_X11_word hRM (TxM.ox (o := o) hT) ha ?_)
    rw [← ep]
    refine Kq_i (k' := 0) (sl' := 0) rfl rfl ?_
    refine V_istore_n 5 [(1, .int (nI (wcF t z p))), (0, rf G 69)] (by decide) rfl rfl dX11_readStep_4 rfl ?_
    refine V_iload_n 6 0 rfl rfl dX11_readStep_5 rfl ?_
    refine V_ldcSw 9 37 rfl rfl dX11_readStep_6 rfl ?_
    refine V_callS (K' := 0) (S' := 0) 12 1 [sr G 37] mkX11_of lkX11_204 rfl (Nat.le_of_ble_eq_true rfl) (Nat.le_of_ble_eq_true rfl) (Nat.le_of_ble_eq_true rfl) (Nat.le_of_ble_eq_true rfl) rfl rfl dX11_readStep_9 rfl (c_X11_of (wdo 37 (by decide) (by decide) (by decide)) ?_)
    refine Kq_i (k' := 0) (sl' := 0) rfl rfl ?_
    refine V_icmp_ne 30 15 rfl dX11_readStep_12 rfl (fun c12 => ?_) (fun c12 => absurd ((wN hs2 (wdo 37 (by decide) (by decide) (by decide)) o37).mp c12) (kn 6 (by decide)))
    refine V_iload_n 31 0 rfl rfl dX11_readStep_30 rfl ?_
    refine V_ldcSw 34 38 rfl rfl dX11_readStep_31 rfl ?_
    refine V_callS (K' := 0) (S' := 0) 37 1 [sr G 38] mkX11_of lkX11_204 rfl (Nat.le_of_ble_eq_true rfl) (Nat.le_of_ble_eq_true rfl) (Nat.le_of_ble_eq_true rfl) (Nat.le_of_ble_eq_true rfl) rfl rfl dX11_readStep_34 rfl (c_X11_of (wdo 38 (by decide) (by decide) (by decide)) ?_)
    refine Kq_i (k' := 0) (sl' := 0) rfl rfl ?_
    refine V_icmp_eq 50 40 rfl dX11_readStep_37 rfl (fun c37 => absurd ((wN hs2 (wdo 38 (by decide) (by decide) (by decide)) o38).mp c37) (kn 0 (by decide))) (fun c37 => ?_)
    refine V_iload_n 41 0 rfl rfl dX11_readStep_40 rfl ?_
    refine V_ldcSw 44 39 rfl rfl dX11_readStep_41 rfl ?_
    refine V_callS (K' := 0) (S' := 0) 47 1 [sr G 39] mkX11_of lkX11_204 rfl (Nat.le_of_ble_eq_true rfl) (Nat.le_of_ble_eq_true rfl) (Nat.le_of_ble_eq_true rfl) (Nat.le_of_ble_eq_true rfl) rfl rfl dX11_readStep_44 rfl (c_X11_of (wdo 39 (by decide) (by decide) (by decide)) ?_)
    refine Kq_i (k' := 0) (sl' := 0) rfl rfl ?_
    refine V_icmp_ne 117 50 rfl dX11_readStep_47 rfl (fun c47 => ?_) (fun c47 => absurd ((wN hs2 (wdo 39 (by decide) (by decide) (by decide)) o39).mp c47) (kn 2 (by decide)))
    refine V_iload_n 118 0 rfl rfl dX11_readStep_117 rfl ?_
    refine V_ldcSw 121 40 rfl rfl dX11_readStep_118 rfl ?_
    refine V_callS (K' := 0) (S' := 0) 124 1 [sr G 40] mkX11_of lkX11_204 rfl (Nat.le_of_ble_eq_true rfl) (Nat.le_of_ble_eq_true rfl) (Nat.le_of_ble_eq_true rfl) (Nat.le_of_ble_eq_true rfl) rfl rfl dX11_readStep_121 rfl (c_X11_of (wdo 40 (by decide) (by decide) (by decide)) ?_)
    refine Kq_i (k' := 0) (sl' := 0) rfl rfl ?_
    refine V_icmp_eq 147 127 rfl dX11_readStep_124 rfl (fun c124 => absurd ((wN hs2 (wdo 40 (by decide) (by decide) (by decide)) o40).mp c124) (kn 1 (by decide))) (fun c124 => ?_)
    refine V_iload_n 128 0 rfl rfl dX11_readStep_127 rfl ?_
    refine V_ldcSw 131 41 rfl rfl dX11_readStep_128 rfl ?_
    refine V_callS (K' := 0) (S' := 0) 134 1 [sr G 41] mkX11_of lkX11_204 rfl (Nat.le_of_ble_eq_true rfl) (Nat.le_of_ble_eq_true rfl) (Nat.le_of_ble_eq_true rfl) (Nat.le_of_ble_eq_true rfl) rfl rfl dX11_readStep_131 rfl (c_X11_of (wdo 41 (by decide) (by decide) (by decide)) ?_)
    refine Kq_i (k' := 0) (sl' := 0) rfl rfl ?_
    refine V_icmp_eq 147 137 rfl dX11_readStep_134 rfl (fun c134 => absurd ((wN hs2 (wdo 41 (by decide) (by decide) (by decide)) o41).mp c134) (kn 3 (by decide))) (fun c134 => ?_)
    refine V_iload_n 138 0 rfl rfl dX11_readStep_137 rfl ?_
    refine V_ldcSw 141 42 rfl rfl dX11_readStep_138 rfl ?_
    refine V_callS (K' := 0) (S' := 0) 144 1 [sr G 42] mkX11_of lkX11_204 rfl (Nat.le_of_ble_eq_true rfl) (Nat.le_of_ble_eq_true rfl) (Nat.le_of_ble_eq_true rfl) (Nat.le_of_ble_eq_true rfl) rfl rfl dX11_readStep_141 rfl (c_X11_of (wdo 42 (by decide) (by decide) (by decide)) ?_)
    refine Kq_i (k' := 0) (sl' := 0) rfl rfl ?_
    refine V_icmp_ne 199 147 rfl dX11_readStep_144 rfl (fun c144 => ?_) (fun c144 => absurd ((wN hs2 (wdo 42 (by decide) (by decide) (by decide)) o42).mp c144) (kn 5 (by decide)))
    refine V_iload_n 200 0 rfl rfl dX11_readStep_199 rfl ?_
    refine V_ldcSw 203 43 rfl rfl dX11_readStep_200 rfl ?_
    refine V_callS (K' := 0) (S' := 0) 206 1 [sr G 43] mkX11_of lkX11_204 rfl (Nat.le_of_ble_eq_true rfl) (Nat.le_of_ble_eq_true rfl) (Nat.le_of_ble_eq_true rfl) (Nat.le_of_ble_eq_true rfl) rfl rfl dX11_readStep_203 rfl (c_X11_of (wdo 43 (by decide) (by decide) (by decide)) ?_)
    refine Kq_i (k' := 0) (sl' := 0) rfl rfl ?_
    refine V_icmp_ne 233 209 rfl dX11_readStep_206 rfl (fun c206 => ?_) (fun c206 => absurd ((wN hs2 (wdo 43 (by decide) (by decide) (by decide)) o43).mp c206) (kn 4 (by decide)))
    refine V_iload_n 234 0 rfl rfl dX11_readStep_233 rfl ?_
    refine V_ldcSw 237 44 rfl rfl dX11_readStep_234 rfl ?_
    refine V_callS (K' := 0) (S' := 0) 240 1 [sr G 44] mkX11_of lkX11_204 rfl (Nat.le_of_ble_eq_true rfl) (Nat.le_of_ble_eq_true rfl) (Nat.le_of_ble_eq_true rfl) (Nat.le_of_ble_eq_true rfl) rfl rfl dX11_readStep_237 rfl (c_X11_of (wdo 44 (by decide) (by decide) (by decide)) ?_)
    refine Kq_i (k' := 0) (sl' := 0) rfl rfl ?_
    refine V_icmp_ne 336 243 rfl dX11_readStep_240 rfl (fun c240 => ?_) (fun c240 => absurd ((wN hs2 (wdo 44 (by decide) (by decide) (by decide)) o44).mp c240) (kn 7 (by decide)))
    refine V_aload_n 337 1 rfl _ rfl rfl dX11_readStep_336 rfl ?_
    refine V_iconst 338 (1) rfl dX11_readStep_337 rfl ?_
    refine V_aload_n 339 1 rfl _ rfl rfl dX11_readStep_338 rfl ?_
    refine V_getI 342 69 11 4 (nI p) rfl flX11_129 rfl rfl rfl (by decide) dX11_readStep_339 rfl ?_
    refine V_callV (K' := 0) (S' := 0) 345 69 11 2 [.int 1, .int (nI p)] mkX11_wrong lkX11_159 (by decide) rfl rfl (by decide) rfl (Nat.le_of_ble_eq_true rfl) (Nat.le_of_ble_eq_true rfl) (Nat.le_of_ble_eq_true rfl) (Nat.le_of_ble_eq_true rfl) rfl rfl dX11_readStep_342 rfl (c_X11_wrong (kd := 1) (q := p) (fun e => absurd rfl e) (fun _ => ?_))
    refine Kq_v (k' := 0) (sl' := 0) rfl rfl ?_
    refine V_aload_n 346 1 rfl _ rfl rfl dX11_readStep_345 rfl ?_
    refine V_bipush 348 (59) rfl dX11_readStep_346 rfl ?_
    refine V_callV (K' := 0) (S' := 0) 351 69 11 1 [.int 59] mkX11_sign lkX11_242 (by decide) rfl rfl (by decide) rfl (Nat.le_of_ble_eq_true rfl) (Nat.le_of_ble_eq_true rfl) (Nat.le_of_ble_eq_true rfl) (Nat.le_of_ble_eq_true rfl) rfl rfl dX11_readStep_348 rfl (c_X11_sign (c := 59) hRM (TxM.ox (o := o) hT) (by decide) (by decide) hs2 (fun _ => ?_) (fun e _ _ => absurd e nb) (fun e _ => absurd e nb))
    refine Kq_v (k' := 0) (sl' := 0) rfl rfl ?_
    refine V_ret_v rfl (Nat.le_of_ble_eq_true rfl) (fun h => absurd h (by decide)) (Nat.le_of_ble_eq_true rfl) (hb 1 p I p (pSs_1 e7) (by decide) (by decide) hs2 FrV.rf hs2) dX11_readStep_351
  | some kk =>
    obtain ⟨k7, hpz, kw, kl⟩ := kw_len hs2 ek
    obtain ⟨ekw, -⟩ := kw_some ek
    have he := (enF_z (t := t) hs2).2.1
    have zz := (sk_z (t := t) he)
    rcases (show kk = 0 ∨ kk = 1 ∨ kk = 2 ∨ kk = 3 ∨ kk = 4 ∨ kk = 5 ∨ kk = 6 ∨ kk = 7 by omega) with rfl | rfl | rfl | rfl | rfl | rfl | rfl | rfl
    · have e7 : pSt (pAg (pBo u t z (z + 1)) t z) t z K n S p = bd (pOps t z K 0 (nx t z p)) (fun x => .inr ((n + 1, upS S n (0, x.1.1, x.1.2, n + 1)), x.2)) := by unfold pSt; rw [ek]; rfl
      refine V_aload_n 1 0 rfl _ rfl rfl dX11_readStep_0 rfl ?_
      refine V_callV (K' := 0) (S' := 0) 4 69 11 0 [] mkX11_word lkX11_227 (by decide) rfl rfl (by decide) rfl (Nat.le_of_ble_eq_true rfl) (Nat.le_of_ble_eq_true rfl) (Nat.le_of_ble_eq_true rfl) (Nat.le_of_ble_eq_true rfl) rfl rfl dX11_readStep_1 rfl (c_X11_word hRM (TxM.ox (o := o) hT) ha ?_)
      rw [← ep]
      refine Kq_i (k' := 0) (sl' := 0) rfl rfl ?_
      refine V_istore_n 5 [(1, .int (nI (wcF t z p))), (0, rf G 69)] (by decide) rfl rfl dX11_readStep_4 rfl ?_
      refine V_iload_n 6 0 rfl rfl dX11_readStep_5 rfl ?_
      refine V_ldcSw 9 37 rfl rfl dX11_readStep_6 rfl ?_
      refine V_callS (K' := 0) (S' := 0) 12 1 [sr G 37] mkX11_of lkX11_204 rfl (Nat.le_of_ble_eq_true rfl) (Nat.le_of_ble_eq_true rfl) (Nat.le_of_ble_eq_true rfl) (Nat.le_of_ble_eq_true rfl) rfl rfl dX11_readStep_9 rfl (c_X11_of (wdo 37 (by decide) (by decide) (by decide)) ?_)
      refine Kq_i (k' := 0) (sl' := 0) rfl rfl ?_
      refine V_icmp_ne 30 15 rfl dX11_readStep_12 rfl (fun c12 => ?_) (fun c12 => absurd c12 (by rw [ekw]; decide +kernel))
      refine V_iload_n 31 0 rfl rfl dX11_readStep_30 rfl ?_
      refine V_ldcSw 34 38 rfl rfl dX11_readStep_31 rfl ?_
      refine V_callS (K' := 0) (S' := 0) 37 1 [sr G 38] mkX11_of lkX11_204 rfl (Nat.le_of_ble_eq_true rfl) (Nat.le_of_ble_eq_true rfl) (Nat.le_of_ble_eq_true rfl) (Nat.le_of_ble_eq_true rfl) rfl rfl dX11_readStep_34 rfl (c_X11_of (wdo 38 (by decide) (by decide) (by decide)) ?_)
      refine Kq_i (k' := 0) (sl' := 0) rfl rfl ?_
      refine V_icmp_eq 50 40 rfl dX11_readStep_37 rfl (fun c37 => ?_) (fun c37 => absurd (show nI (wcF t z p) = nI (ocF 38) from by rw [ekw, o38]) c37)
      refine V_aload_n 51 1 rfl _ rfl rfl dX11_readStep_50 rfl ?_
      refine V_callV (K' := 0) (S' := 0) 54 69 11 0 [] mkX11_pass lkX11_236 (by decide) rfl rfl (by decide) rfl (Nat.le_of_ble_eq_true rfl) (Nat.le_of_ble_eq_true rfl) (Nat.le_of_ble_eq_true rfl) (Nat.le_of_ble_eq_true rfl) rfl rfl dX11_readStep_51 rfl (c_X11_pass hRM (TxM.ox (o := o) hT) hs2 ?_)
      rw [kw]
      refine Kq_v (k' := 0) (sl' := 0) rfl rfl ?_
      refine V_aload_n 55 1 rfl _ rfl rfl dX11_readStep_54 rfl ?_
      refine V_iconst 56 (0) rfl dX11_readStep_55 rfl ?_
      refine V_aload_n 57 1 rfl _ rfl rfl dX11_readStep_56 rfl ?_
      refine V_getI 60 69 11 23 (nI (cM K)) (show lx _ _ _ _ 69 23 = _ from by rw [lx_69 (by decide) (by decide) (by decide), ox_69 (by decide)]; exact (hK).2.2.1) flX11_181 rfl rfl rfl (by decide) dX11_readStep_57 rfl ?_
      refine V_iconst 61 (1) rfl dX11_readStep_60 rfl ?_
      refine V_isub 62 dX11_readStep_61 rfl ?_
      refine V_callV (K' := 0) (S' := 0) 65 69 11 2 [.int 0, .int ((nI (cM K)) - 1)] mkX11_readNumber lkX11_212 (by decide) rfl rfl (by decide) rfl (Nat.le_of_ble_eq_true rfl) (Nat.le_of_ble_eq_true rfl) (Nat.le_of_ble_eq_true rfl) (Nat.le_of_ble_eq_true rfl) rfl rfl dX11_readStep_62 rfl (c_X11_readNumber (lo := 0) (cnt := cM K) hRM (TxM.ox (o := o) hT) (by decide) (by omega) (hh_m1 (cM K) (by omega)) he (fun e => absurd rfl e) (fun v62 _ e62 => ?_) (fun k62 a62 ha62 _ e62 => ?_))
      · refine Kq_i (k' := 0) (sl' := 0) rfl rfl ?_
        obtain ⟨-, -, lo62, hi62, -, -, lt62, hz62⟩ := pNum_ok e62
        refine V_istore_n 66 [(2, .int (nI v62)), (1, .int (nI (wcF t z p))), (0, rf G 69)] (by decide) rfl rfl dX11_readStep_65 rfl ?_
        refine V_aload_n 67 2 rfl _ rfl rfl dX11_readStep_66 rfl ?_
        refine V_iload_n 68 1 rfl rfl dX11_readStep_67 rfl ?_
        refine V_ldcSw 71 38 rfl rfl dX11_readStep_68 rfl ?_
        refine V_callS (K' := 0) (S' := 0) 74 1 [sr G 38] mkX11_of lkX11_204 rfl (Nat.le_of_ble_eq_true rfl) (Nat.le_of_ble_eq_true rfl) (Nat.le_of_ble_eq_true rfl) (Nat.le_of_ble_eq_true rfl) rfl rfl dX11_readStep_71 rfl (c_X11_of (wdo 38 (by decide) (by decide) (by decide)) ?_)
        refine Kq_i (k' := 0) (sl' := 0) rfl rfl ?_
        refine V_icmp_ne 81 77 rfl dX11_readStep_74 rfl (fun c74 => absurd (show nI (wcF t z p) = nI (ocF 38) from by rw [ekw, o38]) c74) (fun c74 => ?_)
        refine V_iconst 78 (0) rfl dX11_readStep_77 rfl ?_
        refine V_goto 82 rfl dX11_readStep_78 ?_
        refine V_iload_n 83 0 rfl rfl dX11_readStep_82 rfl ?_
        refine V_aload_n 84 2 rfl _ rfl rfl dX11_readStep_83 rfl ?_
        refine V_iconst 85 (0) rfl dX11_readStep_84 rfl ?_
        refine V_iload_n 86 1 rfl rfl dX11_readStep_85 rfl ?_
        refine V_ldcSw 89 38 rfl rfl dX11_readStep_86 rfl ?_
        refine V_callS (K' := 0) (S' := 0) 92 1 [sr G 38] mkX11_of lkX11_204 rfl (Nat.le_of_ble_eq_true rfl) (Nat.le_of_ble_eq_true rfl) (Nat.le_of_ble_eq_true rfl) (Nat.le_of_ble_eq_true rfl) rfl rfl dX11_readStep_89 rfl (c_X11_of (wdo 38 (by decide) (by decide) (by decide)) ?_)
        refine Kq_i (k' := 0) (sl' := 0) rfl rfl ?_
        refine V_icmp_ne 102 95 rfl dX11_readStep_92 rfl (fun c92 => absurd (show nI (wcF t z p) = nI (ocF 38) from by rw [ekw, o38]) c92) (fun c92 => ?_)
        refine V_aload_n 96 2 rfl _ rfl rfl dX11_readStep_95 rfl ?_
        refine V_getI 99 69 11 21 (nI (cH K)) (show lx _ _ _ _ 69 21 = _ from by rw [lx_69 (by decide) (by decide) (by decide), ox_69 (by decide)]; exact (hK).1) flX11_175 rfl rfl rfl (by decide) dX11_readStep_96 rfl ?_
        refine V_goto 106 rfl dX11_readStep_99 ?_
        refine V_iconst 107 (1) rfl dX11_readStep_106 rfl ?_
        refine V_isub 108 dX11_readStep_107 rfl ?_
        refine V_callV (K' := 0) (S' := 0) 111 69 11 2 [.int 0, .int ((nI (cH K)) - 1)] mkX11_readNumber lkX11_212 (by decide) rfl rfl (by decide) rfl (Nat.le_of_ble_eq_true rfl) (Nat.le_of_ble_eq_true rfl) (Nat.le_of_ble_eq_true rfl) (Nat.le_of_ble_eq_true rfl) rfl rfl dX11_readStep_108 rfl (c_X11_readNumber (lo := 0) (cnt := cH K) hRM (TxM.ox (o := o) hT) (by decide) (by omega) (hh_m1 (cH K) (by omega)) (enF_z (sk_z he).2.1).2.1 (fun e => absurd rfl e) (fun v108 _ e108 => ?_) (fun k108 a108 ha108 _ e108 => ?_))
        · refine Kq_i (k' := 0) (sl' := 0) rfl rfl ?_
          obtain ⟨-, -, lo108, hi108, -, -, lt108, hz108⟩ := pNum_ok e108
          refine V_callV (K' := 0) (S' := 0) 114 69 11 3 [.int 0, .int (nI v62), .int (nI v108)] mkX11_tellsStep lkX11_302 (by decide) rfl rfl (by decide) rfl (Nat.le_of_ble_eq_true rfl) (Nat.le_of_ble_eq_true rfl) (Nat.le_of_ble_eq_true rfl) (Nat.le_of_ble_eq_true rfl) rfl rfl dX11_readStep_111 rfl (c_X11_tellsStep (x := nI 0) (y := nI v62) (w := nI v108) hRM h34 (by omega) ?_)
          refine Kq_v (k' := 0) (sl' := 0) rfl rfl ?_
          refine V_goto 345 rfl dX11_readStep_114 ?_
          refine V_aload_n 346 2 rfl _ rfl rfl dX11_readStep_345 rfl ?_
          refine V_bipush 348 (59) rfl dX11_readStep_346 rfl ?_
          refine V_callV (K' := 0) (S' := 0) 351 69 11 1 [.int 59] mkX11_sign lkX11_242 (by decide) rfl rfl (by decide) rfl (Nat.le_of_ble_eq_true rfl) (Nat.le_of_ble_eq_true rfl) (Nat.le_of_ble_eq_true rfl) (Nat.le_of_ble_eq_true rfl) rfl rfl dX11_readStep_348 rfl (c_X11_sign (c := 59) hRM (TxM.ox (o := o) (ts_fr.T hT)) (by decide) (by decide) (enF_z (sk_z (enF_z (sk_z he).2.1).2.1).2.1).2.1 (fun e => absurd rfl e) (fun _ z348 s348 => ?_) (fun _ e348 => ?_))
          · refine Kq_v (k' := 0) (sl' := 0) rfl rfl ?_
            have e348 : pSig t z 59 (sk t z (enF t z (sk t z (enF t z (sk t z (enF t z p)))))) = .inr (sk t z (sk t z (enF t z (sk t z (enF t z (sk t z (enF t z p))))) + 1)) := sig_ok z348 s348 (by decide) (by decide)
            have lz348 := (pSig_ok e348).2.2.2
            refine V_ret_v rfl (Nat.le_of_ble_eq_true rfl) (fun h => absurd h (by decide)) (Nat.le_of_ble_eq_true rfl) (hk _ _ _ _ _ (pSs_o (e7.trans (bd_ok (show pOps t z K 0 (nx t z p) = .inr ((v62, v108), _) from (if_neg (by decide)).trans ((if_neg (by decide)).trans ((bd_ok e62).trans ((if_pos rfl).trans (bd_ok e108))))))) e348) ts_34 (fun i q1 q2 => by rw [show i = n by omega, upS_s]; exact ts_M (by decide)) ts_E ts_fr (Nat.succ_le_of_lt z348) rfl) dX11_readStep_351
          · refine Kq_v (k' := 0) (sl' := 0) rfl rfl ?_
            have nb348 : ¬ nI (sk t z (enF t z (sk t z (enF t z (sk t z (enF t z p)))))) = -1 := nI_ne (by first | omega | exact Nat.lt_of_le_of_lt (sk_z (t := t) (enF_z (sk_z (enF_z (sk_z he).2.1).2.1).2.1).2.1).2.1 (by omega))
            refine V_ret_v rfl (Nat.le_of_ble_eq_true rfl) (fun h => absurd h (by decide)) (Nat.le_of_ble_eq_true rfl) (hb 1 _ _ _ (pSs_2 (e7.trans (bd_ok (show pOps t z K 0 (nx t z p) = .inr ((v62, v108), _) from (if_neg (by decide)).trans ((if_neg (by decide)).trans ((bd_ok e62).trans ((if_pos rfl).trans (bd_ok e108))))))) e348) (by decide) (by decide) (by first | omega | exact (sk_z (t := t) (by assumption)).2.1) ts_fr (sk_z (enF_z (sk_z (enF_z (sk_z he).2.1).2.1).2.1).2.1).2.1) dX11_readStep_351
        · refine Kq_i (k' := 0) (sl' := 0) rfl rfl ?_
          have kk108 := pNum_k e108
          have nb108 : ¬ nI (sk t z (enF t z (sk t z (enF t z p)))) = -1 := nI_ne (by first | omega | exact Nat.lt_of_le_of_lt (sk_z (t := t) (enF_z (sk_z he).2.1).2.1).2.1 (by omega))
          refine V_callV (K' := 0) (S' := 0) 114 69 11 3 [.int 0, .int (nI v62), .int 0] mkX11_tellsStep lkX11_302 (by decide) rfl rfl (by decide) rfl (Nat.le_of_ble_eq_true rfl) (Nat.le_of_ble_eq_true rfl) (Nat.le_of_ble_eq_true rfl) (Nat.le_of_ble_eq_true rfl) rfl rfl dX11_readStep_111 rfl (c_X11_tellsStepF nb108 ?_)
          refine Kq_v (k' := 0) (sl' := 0) rfl rfl ?_
          refine V_goto 345 rfl dX11_readStep_114 ?_
          refine V_aload_n 346 2 rfl _ rfl rfl dX11_readStep_345 rfl ?_
          refine V_bipush 348 (59) rfl dX11_readStep_346 rfl ?_
          refine V_callV (K' := 0) (S' := 0) 351 69 11 1 [.int 59] mkX11_sign lkX11_242 (by decide) rfl rfl (by decide) rfl (Nat.le_of_ble_eq_true rfl) (Nat.le_of_ble_eq_true rfl) (Nat.le_of_ble_eq_true rfl) (Nat.le_of_ble_eq_true rfl) rfl rfl dX11_readStep_348 rfl (c_X11_sign (c := 59) hRM (TxM.ox (o := o) hT) (by decide) (by decide) ha108 (fun _ => ?_) (fun e _ _ => absurd e nb108) (fun e _ => absurd e nb108))
          refine Kq_v (k' := 0) (sl' := 0) rfl rfl ?_
          refine V_ret_v rfl (Nat.le_of_ble_eq_true rfl) (fun h => absurd h (by decide)) (Nat.le_of_ble_eq_true rfl) (hb _ _ _ _ (pSs_1 (e7.trans (bd_no (show pOps t z K 0 (nx t z p) = .inl (k108, _) from (if_neg (by decide)).trans ((if_neg (by decide)).trans ((bd_ok e62).trans ((if_pos rfl).trans (bd_no e108)))))))) kk108.1 kk108.2 (by omega) FrV.rf ha108) dX11_readStep_351
      · refine Kq_i (k' := 0) (sl' := 0) rfl rfl ?_
        have kk62 := pNum_k e62
        have nb62 : ¬ nI (sk t z (enF t z p)) = -1 := nI_ne (by first | omega | exact Nat.lt_of_le_of_lt (sk_z (t := t) he).2.1 (by omega))
        refine V_istore_n 66 [(2, .int 0), (1, .int (nI (wcF t z p))), (0, rf G 69)] (by decide) rfl rfl dX11_readStep_65 rfl ?_
        refine V_aload_n 67 2 rfl _ rfl rfl dX11_readStep_66 rfl ?_
        refine V_iload_n 68 1 rfl rfl dX11_readStep_67 rfl ?_
        refine V_ldcSw 71 38 rfl rfl dX11_readStep_68 rfl ?_
        refine V_callS (K' := 0) (S' := 0) 74 1 [sr G 38] mkX11_of lkX11_204 rfl (Nat.le_of_ble_eq_true rfl) (Nat.le_of_ble_eq_true rfl) (Nat.le_of_ble_eq_true rfl) (Nat.le_of_ble_eq_true rfl) rfl rfl dX11_readStep_71 rfl (c_X11_of (wdo 38 (by decide) (by decide) (by decide)) ?_)
        refine Kq_i (k' := 0) (sl' := 0) rfl rfl ?_
        refine V_icmp_ne 81 77 rfl dX11_readStep_74 rfl (fun c74 => absurd (show nI (wcF t z p) = nI (ocF 38) from by rw [ekw, o38]) c74) (fun c74 => ?_)
        refine V_iconst 78 (0) rfl dX11_readStep_77 rfl ?_
        refine V_goto 82 rfl dX11_readStep_78 ?_
        refine V_iload_n 83 0 rfl rfl dX11_readStep_82 rfl ?_
        refine V_aload_n 84 2 rfl _ rfl rfl dX11_readStep_83 rfl ?_
        refine V_iconst 85 (0) rfl dX11_readStep_84 rfl ?_
        refine V_iload_n 86 1 rfl rfl dX11_readStep_85 rfl ?_
        refine V_ldcSw 89 38 rfl rfl dX11_readStep_86 rfl ?_
        refine V_callS (K' := 0) (S' := 0) 92 1 [sr G 38] mkX11_of lkX11_204 rfl (Nat.le_of_ble_eq_true rfl) (Nat.le_of_ble_eq_true rfl) (Nat.le_of_ble_eq_true rfl) (Nat.le_of_ble_eq_true rfl) rfl rfl dX11_readStep_89 rfl (c_X11_of (wdo 38 (by decide) (by decide) (by decide)) ?_)
        refine Kq_i (k' := 0) (sl' := 0) rfl rfl ?_
        refine V_icmp_ne 102 95 rfl dX11_readStep_92 rfl (fun c92 => absurd (show nI (wcF t z p) = nI (ocF 38) from by rw [ekw, o38]) c92) (fun c92 => ?_)
        refine V_aload_n 96 2 rfl _ rfl rfl dX11_readStep_95 rfl ?_
        refine V_getI 99 69 11 21 (nI (cH K)) (show lx _ _ _ _ 69 21 = _ from by rw [lx_69 (by decide) (by decide) (by decide), ox_69 (by decide)]; exact (hK).1) flX11_175 rfl rfl rfl (by decide) dX11_readStep_96 rfl ?_
        refine V_goto 106 rfl dX11_readStep_99 ?_
        refine V_iconst 107 (1) rfl dX11_readStep_106 rfl ?_
        refine V_isub 108 dX11_readStep_107 rfl ?_
        refine V_callV (K' := 0) (S' := 0) 111 69 11 2 [.int 0, .int ((nI (cH K)) - 1)] mkX11_readNumber lkX11_212 (by decide) rfl rfl (by decide) rfl (Nat.le_of_ble_eq_true rfl) (Nat.le_of_ble_eq_true rfl) (Nat.le_of_ble_eq_true rfl) (Nat.le_of_ble_eq_true rfl) rfl rfl dX11_readStep_108 rfl (c_X11_readNumber (lo := 0) (cnt := cH K) hRM (TxM.ox (o := o) hT) (by decide) (by omega) (hh_m1 (cH K) (by omega)) ha62 (fun _ => ?_) (fun _ e _ => absurd e nb62) (fun _ _ _ e _ => absurd e nb62))
        refine Kq_i (k' := 0) (sl' := 0) rfl rfl ?_
        refine V_callV (K' := 0) (S' := 0) 114 69 11 3 [.int 0, .int 0, .int 0] mkX11_tellsStep lkX11_302 (by decide) rfl rfl (by decide) rfl (Nat.le_of_ble_eq_true rfl) (Nat.le_of_ble_eq_true rfl) (Nat.le_of_ble_eq_true rfl) (Nat.le_of_ble_eq_true rfl) rfl rfl dX11_readStep_111 rfl (c_X11_tellsStepF nb62 ?_)
        refine Kq_v (k' := 0) (sl' := 0) rfl rfl ?_
        refine V_goto 345 rfl dX11_readStep_114 ?_
        refine V_aload_n 346 2 rfl _ rfl rfl dX11_readStep_345 rfl ?_
        refine V_bipush 348 (59) rfl dX11_readStep_346 rfl ?_
        refine V_callV (K' := 0) (S' := 0) 351 69 11 1 [.int 59] mkX11_sign lkX11_242 (by decide) rfl rfl (by decide) rfl (Nat.le_of_ble_eq_true rfl) (Nat.le_of_ble_eq_true rfl) (Nat.le_of_ble_eq_true rfl) (Nat.le_of_ble_eq_true rfl) rfl rfl dX11_readStep_348 rfl (c_X11_sign (c := 59) hRM (TxM.ox (o := o) hT) (by decide) (by decide) ha62 (fun _ => ?_) (fun e _ _ => absurd e nb62) (fun e _ => absurd e nb62))
        refine Kq_v (k' := 0) (sl' := 0) rfl rfl ?_
        refine V_ret_v rfl (Nat.le_of_ble_eq_true rfl) (fun h => absurd h (by decide)) (Nat.le_of_ble_eq_true rfl) (hb _ _ _ _ (pSs_1 (e7.trans (bd_no (show pOps t z K 0 (nx t z p) = .inl (k62, _) from (if_neg (by decide)).trans ((if_neg (by decide)).trans (bd_no e62)))))) kk62.1 kk62.2 (by omega) FrV.rf ha62) dX11_readStep_351
    · have e7 : pSt (pAg (pBo u t z (z + 1)) t z) t z K n S p = bd (pOps t z K 1 (nx t z p)) (fun x => .inr ((n + 1, upS S n (1, x.1.1, x.1.2, n + 1)), x.2)) := by unfold pSt; rw [ek]; rfl
      refine V_aload_n 1 0 rfl _ rfl rfl dX11_readStep_0 rfl ?_
      refine V_callV (K' := 0) (S' := 0) 4 69 11 0 [] mkX11_word lkX11_227 (by decide) rfl rfl (by decide) rfl (Nat.le_of_ble_eq_true rfl) (Nat.le_of_ble_eq_true rfl) (Nat.le_of_ble_eq_true rfl) (Nat.le_of_ble_eq_true rfl) rfl rfl dX11_readStep_1 rfl (c_X11_word hRM (TxM.ox (o := o) hT) ha ?_)
      rw [← ep]
      refine Kq_i (k' := 0) (sl' := 0) rfl rfl ?_
      refine V_istore_n 5 [(1, .int (nI (wcF t z p))), (0, rf G 69)] (by decide) rfl rfl dX11_readStep_4 rfl ?_
      refine V_iload_n 6 0 rfl rfl dX11_readStep_5 rfl ?_
      refine V_ldcSw 9 37 rfl rfl dX11_readStep_6 rfl ?_
      refine V_callS (K' := 0) (S' := 0) 12 1 [sr G 37] mkX11_of lkX11_204 rfl (Nat.le_of_ble_eq_true rfl) (Nat.le_of_ble_eq_true rfl) (Nat.le_of_ble_eq_true rfl) (Nat.le_of_ble_eq_true rfl) rfl rfl dX11_readStep_9 rfl (c_X11_of (wdo 37 (by decide) (by decide) (by decide)) ?_)
      refine Kq_i (k' := 0) (sl' := 0) rfl rfl ?_
      refine V_icmp_ne 30 15 rfl dX11_readStep_12 rfl (fun c12 => ?_) (fun c12 => absurd c12 (by rw [ekw]; decide +kernel))
      refine V_iload_n 31 0 rfl rfl dX11_readStep_30 rfl ?_
      refine V_ldcSw 34 38 rfl rfl dX11_readStep_31 rfl ?_
      refine V_callS (K' := 0) (S' := 0) 37 1 [sr G 38] mkX11_of lkX11_204 rfl (Nat.le_of_ble_eq_true rfl) (Nat.le_of_ble_eq_true rfl) (Nat.le_of_ble_eq_true rfl) (Nat.le_of_ble_eq_true rfl) rfl rfl dX11_readStep_34 rfl (c_X11_of (wdo 38 (by decide) (by decide) (by decide)) ?_)
      refine Kq_i (k' := 0) (sl' := 0) rfl rfl ?_
      refine V_icmp_eq 50 40 rfl dX11_readStep_37 rfl (fun c37 => absurd c37 (by rw [ekw]; decide +kernel)) (fun c37 => ?_)
      refine V_iload_n 41 0 rfl rfl dX11_readStep_40 rfl ?_
      refine V_ldcSw 44 39 rfl rfl dX11_readStep_41 rfl ?_
      refine V_callS (K' := 0) (S' := 0) 47 1 [sr G 39] mkX11_of lkX11_204 rfl (Nat.le_of_ble_eq_true rfl) (Nat.le_of_ble_eq_true rfl) (Nat.le_of_ble_eq_true rfl) (Nat.le_of_ble_eq_true rfl) rfl rfl dX11_readStep_44 rfl (c_X11_of (wdo 39 (by decide) (by decide) (by decide)) ?_)
      refine Kq_i (k' := 0) (sl' := 0) rfl rfl ?_
      refine V_icmp_ne 117 50 rfl dX11_readStep_47 rfl (fun c47 => ?_) (fun c47 => absurd c47 (by rw [ekw]; decide +kernel))
      refine V_iload_n 118 0 rfl rfl dX11_readStep_117 rfl ?_
      refine V_ldcSw 121 40 rfl rfl dX11_readStep_118 rfl ?_
      refine V_callS (K' := 0) (S' := 0) 124 1 [sr G 40] mkX11_of lkX11_204 rfl (Nat.le_of_ble_eq_true rfl) (Nat.le_of_ble_eq_true rfl) (Nat.le_of_ble_eq_true rfl) (Nat.le_of_ble_eq_true rfl) rfl rfl dX11_readStep_121 rfl (c_X11_of (wdo 40 (by decide) (by decide) (by decide)) ?_)
      refine Kq_i (k' := 0) (sl' := 0) rfl rfl ?_
      refine V_icmp_eq 147 127 rfl dX11_readStep_124 rfl (fun c124 => ?_) (fun c124 => absurd (show nI (wcF t z p) = nI (ocF 40) from by rw [ekw, o40]) c124)
      refine V_aload_n 148 1 rfl _ rfl rfl dX11_readStep_147 rfl ?_
      refine V_callV (K' := 0) (S' := 0) 151 69 11 0 [] mkX11_pass lkX11_236 (by decide) rfl rfl (by decide) rfl (Nat.le_of_ble_eq_true rfl) (Nat.le_of_ble_eq_true rfl) (Nat.le_of_ble_eq_true rfl) (Nat.le_of_ble_eq_true rfl) rfl rfl dX11_readStep_148 rfl (c_X11_pass hRM (TxM.ox (o := o) hT) hs2 ?_)
      rw [kw]
      refine Kq_v (k' := 0) (sl' := 0) rfl rfl ?_
      refine V_aload_n 152 1 rfl _ rfl rfl dX11_readStep_151 rfl ?_
      refine V_iload_n 153 0 rfl rfl dX11_readStep_152 rfl ?_
      refine V_ldcSw 156 40 rfl rfl dX11_readStep_153 rfl ?_
      refine V_callS (K' := 0) (S' := 0) 159 1 [sr G 40] mkX11_of lkX11_204 rfl (Nat.le_of_ble_eq_true rfl) (Nat.le_of_ble_eq_true rfl) (Nat.le_of_ble_eq_true rfl) (Nat.le_of_ble_eq_true rfl) rfl rfl dX11_readStep_156 rfl (c_X11_of (wdo 40 (by decide) (by decide) (by decide)) ?_)
      refine Kq_i (k' := 0) (sl' := 0) rfl rfl ?_
      refine V_icmp_ne 166 162 rfl dX11_readStep_159 rfl (fun c159 => absurd (show nI (wcF t z p) = nI (ocF 40) from by rw [ekw, o40]) c159) (fun c159 => ?_)
      refine V_iconst 163 (1) rfl dX11_readStep_162 rfl ?_
      refine V_goto 181 rfl dX11_readStep_163 ?_
      refine V_aload_n 182 1 rfl _ rfl rfl dX11_readStep_181 rfl ?_
      refine V_iconst 183 (0) rfl dX11_readStep_182 rfl ?_
      refine V_aload_n 184 1 rfl _ rfl rfl dX11_readStep_183 rfl ?_
      refine V_getI 187 69 11 23 (nI (cM K)) (show lx _ _ _ _ 69 23 = _ from by rw [lx_69 (by decide) (by decide) (by decide), ox_69 (by decide)]; exact (hK).2.2.1) flX11_181 rfl rfl rfl (by decide) dX11_readStep_184 rfl ?_
      refine V_iconst 188 (1) rfl dX11_readStep_187 rfl ?_
      refine V_isub 189 dX11_readStep_188 rfl ?_
      refine V_callV (K' := 0) (S' := 0) 192 69 11 2 [.int 0, .int ((nI (cM K)) - 1)] mkX11_readNumber lkX11_212 (by decide) rfl rfl (by decide) rfl (Nat.le_of_ble_eq_true rfl) (Nat.le_of_ble_eq_true rfl) (Nat.le_of_ble_eq_true rfl) (Nat.le_of_ble_eq_true rfl) rfl rfl dX11_readStep_189 rfl (c_X11_readNumber (lo := 0) (cnt := cM K) hRM (TxM.ox (o := o) hT) (by decide) (by omega) (hh_m1 (cM K) (by omega)) he (fun e => absurd rfl e) (fun v189 _ e189 => ?_) (fun k189 a189 ha189 _ e189 => ?_))
      · refine Kq_i (k' := 0) (sl' := 0) rfl rfl ?_
        obtain ⟨-, -, lo189, hi189, -, -, lt189, hz189⟩ := pNum_ok e189
        refine V_iconst 193 (0) rfl dX11_readStep_192 rfl ?_
        refine V_callV (K' := 0) (S' := 0) 196 69 11 3 [.int 1, .int (nI v189), .int 0] mkX11_tellsStep lkX11_302 (by decide) rfl rfl (by decide) rfl (Nat.le_of_ble_eq_true rfl) (Nat.le_of_ble_eq_true rfl) (Nat.le_of_ble_eq_true rfl) (Nat.le_of_ble_eq_true rfl) rfl rfl dX11_readStep_193 rfl (c_X11_tellsStep (x := nI 1) (y := nI v189) (w := nI 0) hRM h34 (by omega) ?_)
        refine Kq_v (k' := 0) (sl' := 0) rfl rfl ?_
        refine V_goto 345 rfl dX11_readStep_196 ?_
        refine V_aload_n 346 1 rfl _ rfl rfl dX11_readStep_345 rfl ?_
        refine V_bipush 348 (59) rfl dX11_readStep_346 rfl ?_
        refine V_callV (K' := 0) (S' := 0) 351 69 11 1 [.int 59] mkX11_sign lkX11_242 (by decide) rfl rfl (by decide) rfl (Nat.le_of_ble_eq_true rfl) (Nat.le_of_ble_eq_true rfl) (Nat.le_of_ble_eq_true rfl) (Nat.le_of_ble_eq_true rfl) rfl rfl dX11_readStep_348 rfl (c_X11_sign (c := 59) hRM (TxM.ox (o := o) (ts_fr.T hT)) (by decide) (by decide) (enF_z (sk_z he).2.1).2.1 (fun e => absurd rfl e) (fun _ z348 s348 => ?_) (fun _ e348 => ?_))
        · refine Kq_v (k' := 0) (sl' := 0) rfl rfl ?_
          have e348 : pSig t z 59 (sk t z (enF t z (sk t z (enF t z p)))) = .inr (sk t z (sk t z (enF t z (sk t z (enF t z p))) + 1)) := sig_ok z348 s348 (by decide) (by decide)
          have lz348 := (pSig_ok e348).2.2.2
          refine V_ret_v rfl (Nat.le_of_ble_eq_true rfl) (fun h => absurd h (by decide)) (Nat.le_of_ble_eq_true rfl) (hk _ _ _ _ _ (pSs_o (e7.trans (bd_ok (show pOps t z K 1 (nx t z p) = .inr ((v189, 0), _) from (if_neg (by decide)).trans ((if_neg (by decide)).trans ((bd_ok e189).trans ((if_neg (by decide)).trans (if_neg (by decide)))))))) e348) ts_34 (fun i q1 q2 => by rw [show i = n by omega, upS_s]; exact ts_M (by decide)) ts_E ts_fr (Nat.succ_le_of_lt z348) rfl) dX11_readStep_351
        · refine Kq_v (k' := 0) (sl' := 0) rfl rfl ?_
          have nb348 : ¬ nI (sk t z (enF t z (sk t z (enF t z p)))) = -1 := nI_ne (by first | omega | exact Nat.lt_of_le_of_lt (sk_z (t := t) (enF_z (sk_z he).2.1).2.1).2.1 (by omega))
          refine V_ret_v rfl (Nat.le_of_ble_eq_true rfl) (fun h => absurd h (by decide)) (Nat.le_of_ble_eq_true rfl) (hb 1 _ _ _ (pSs_2 (e7.trans (bd_ok (show pOps t z K 1 (nx t z p) = .inr ((v189, 0), _) from (if_neg (by decide)).trans ((if_neg (by decide)).trans ((bd_ok e189).trans ((if_neg (by decide)).trans (if_neg (by decide)))))))) e348) (by decide) (by decide) (by first | omega | exact (sk_z (t := t) (by assumption)).2.1) ts_fr (sk_z (enF_z (sk_z he).2.1).2.1).2.1) dX11_readStep_351
      · refine Kq_i (k' := 0) (sl' := 0) rfl rfl ?_
        have kk189 := pNum_k e189
        have nb189 : ¬ nI (sk t z (enF t z p)) = -1 := nI_ne (by first | omega | exact Nat.lt_of_le_of_lt (sk_z (t := t) he).2.1 (by omega))
        refine V_iconst 193 (0) rfl dX11_readStep_192 rfl ?_
        refine V_callV (K' := 0) (S' := 0) 196 69 11 3 [.int 1, .int 0, .int 0] mkX11_tellsStep lkX11_302 (by decide) rfl rfl (by decide) rfl (Nat.le_of_ble_eq_true rfl) (Nat.le_of_ble_eq_true rfl) (Nat.le_of_ble_eq_true rfl) (Nat.le_of_ble_eq_true rfl) rfl rfl dX11_readStep_193 rfl (c_X11_tellsStepF nb189 ?_)
        refine Kq_v (k' := 0) (sl' := 0) rfl rfl ?_
        refine V_goto 345 rfl dX11_readStep_196 ?_
        refine V_aload_n 346 1 rfl _ rfl rfl dX11_readStep_345 rfl ?_
        refine V_bipush 348 (59) rfl dX11_readStep_346 rfl ?_
        refine V_callV (K' := 0) (S' := 0) 351 69 11 1 [.int 59] mkX11_sign lkX11_242 (by decide) rfl rfl (by decide) rfl (Nat.le_of_ble_eq_true rfl) (Nat.le_of_ble_eq_true rfl) (Nat.le_of_ble_eq_true rfl) (Nat.le_of_ble_eq_true rfl) rfl rfl dX11_readStep_348 rfl (c_X11_sign (c := 59) hRM (TxM.ox (o := o) hT) (by decide) (by decide) ha189 (fun _ => ?_) (fun e _ _ => absurd e nb189) (fun e _ => absurd e nb189))
        refine Kq_v (k' := 0) (sl' := 0) rfl rfl ?_
        refine V_ret_v rfl (Nat.le_of_ble_eq_true rfl) (fun h => absurd h (by decide)) (Nat.le_of_ble_eq_true rfl) (hb _ _ _ _ (pSs_1 (e7.trans (bd_no (show pOps t z K 1 (nx t z p) = .inl (k189, _) from (if_neg (by decide)).trans ((if_neg (by decide)).trans (bd_no e189)))))) kk189.1 kk189.2 (by omega) FrV.rf ha189) dX11_readStep_351
    · have e7 : pSt (pAg (pBo u t z (z + 1)) t z) t z K n S p = bd (pOps t z K 2 (nx t z p)) (fun x => .inr ((n + 1, upS S n (2, x.1.1, x.1.2, n + 1)), x.2)) := by unfold pSt; rw [ek]; rfl
      refine V_aload_n 1 0 rfl _ rfl rfl dX11_readStep_0 rfl ?_
      refine V_callV (K' := 0) (S' := 0) 4 69 11 0 [] mkX11_word lkX11_227 (by decide) rfl rfl (by decide) rfl (Nat.le_of_ble_eq_true rfl) (Nat.le_of_ble_eq_true rfl) (Nat.le_of_ble_eq_true rfl) (Nat.le_of_ble_eq_true rfl) rfl rfl dX11_readStep_1 rfl (c_X11_word hRM (TxM.ox (o := o) hT) ha ?_)
      rw [← ep]
      refine Kq_i (k' := 0) (sl' := 0) rfl rfl ?_
      refine V_istore_n 5 [(1, .int (nI (wcF t z p))), (0, rf G 69)] (by decide) rfl rfl dX11_readStep_4 rfl ?_
      refine V_iload_n 6 0 rfl rfl dX11_readStep_5 rfl ?_
      refine V_ldcSw 9 37 rfl rfl dX11_readStep_6 rfl ?_
      refine V_callS (K' := 0) (S' := 0) 12 1 [sr G 37] mkX11_of lkX11_204 rfl (Nat.le_of_ble_eq_true rfl) (Nat.le_of_ble_eq_true rfl) (Nat.le_of_ble_eq_true rfl) (Nat.le_of_ble_eq_true rfl) rfl rfl dX11_readStep_9 rfl (c_X11_of (wdo 37 (by decide) (by decide) (by decide)) ?_)
      refine Kq_i (k' := 0) (sl' := 0) rfl rfl ?_
      refine V_icmp_ne 30 15 rfl dX11_readStep_12 rfl (fun c12 => ?_) (fun c12 => absurd c12 (by rw [ekw]; decide +kernel))
      refine V_iload_n 31 0 rfl rfl dX11_readStep_30 rfl ?_
      refine V_ldcSw 34 38 rfl rfl dX11_readStep_31 rfl ?_
      refine V_callS (K' := 0) (S' := 0) 37 1 [sr G 38] mkX11_of lkX11_204 rfl (Nat.le_of_ble_eq_true rfl) (Nat.le_of_ble_eq_true rfl) (Nat.le_of_ble_eq_true rfl) (Nat.le_of_ble_eq_true rfl) rfl rfl dX11_readStep_34 rfl (c_X11_of (wdo 38 (by decide) (by decide) (by decide)) ?_)
      refine Kq_i (k' := 0) (sl' := 0) rfl rfl ?_
      refine V_icmp_eq 50 40 rfl dX11_readStep_37 rfl (fun c37 => absurd c37 (by rw [ekw]; decide +kernel)) (fun c37 => ?_)
      refine V_iload_n 41 0 rfl rfl dX11_readStep_40 rfl ?_
      refine V_ldcSw 44 39 rfl rfl dX11_readStep_41 rfl ?_
      refine V_callS (K' := 0) (S' := 0) 47 1 [sr G 39] mkX11_of lkX11_204 rfl (Nat.le_of_ble_eq_true rfl) (Nat.le_of_ble_eq_true rfl) (Nat.le_of_ble_eq_true rfl) (Nat.le_of_ble_eq_true rfl) rfl rfl dX11_readStep_44 rfl (c_X11_of (wdo 39 (by decide) (by decide) (by decide)) ?_)
      refine Kq_i (k' := 0) (sl' := 0) rfl rfl ?_
      refine V_icmp_ne 117 50 rfl dX11_readStep_47 rfl (fun c47 => absurd (show nI (wcF t z p) = nI (ocF 39) from by rw [ekw, o39]) c47) (fun c47 => ?_)
      refine V_aload_n 51 1 rfl _ rfl rfl dX11_readStep_50 rfl ?_
      refine V_callV (K' := 0) (S' := 0) 54 69 11 0 [] mkX11_pass lkX11_236 (by decide) rfl rfl (by decide) rfl (Nat.le_of_ble_eq_true rfl) (Nat.le_of_ble_eq_true rfl) (Nat.le_of_ble_eq_true rfl) (Nat.le_of_ble_eq_true rfl) rfl rfl dX11_readStep_51 rfl (c_X11_pass hRM (TxM.ox (o := o) hT) hs2 ?_)
      rw [kw]
      refine Kq_v (k' := 0) (sl' := 0) rfl rfl ?_
      refine V_aload_n 55 1 rfl _ rfl rfl dX11_readStep_54 rfl ?_
      refine V_iconst 56 (0) rfl dX11_readStep_55 rfl ?_
      refine V_aload_n 57 1 rfl _ rfl rfl dX11_readStep_56 rfl ?_
      refine V_getI 60 69 11 23 (nI (cM K)) (show lx _ _ _ _ 69 23 = _ from by rw [lx_69 (by decide) (by decide) (by decide), ox_69 (by decide)]; exact (hK).2.2.1) flX11_181 rfl rfl rfl (by decide) dX11_readStep_57 rfl ?_
      refine V_iconst 61 (1) rfl dX11_readStep_60 rfl ?_
      refine V_isub 62 dX11_readStep_61 rfl ?_
      refine V_callV (K' := 0) (S' := 0) 65 69 11 2 [.int 0, .int ((nI (cM K)) - 1)] mkX11_readNumber lkX11_212 (by decide) rfl rfl (by decide) rfl (Nat.le_of_ble_eq_true rfl) (Nat.le_of_ble_eq_true rfl) (Nat.le_of_ble_eq_true rfl) (Nat.le_of_ble_eq_true rfl) rfl rfl dX11_readStep_62 rfl (c_X11_readNumber (lo := 0) (cnt := cM K) hRM (TxM.ox (o := o) hT) (by decide) (by omega) (hh_m1 (cM K) (by omega)) he (fun e => absurd rfl e) (fun v62 _ e62 => ?_) (fun k62 a62 ha62 _ e62 => ?_))
      · refine Kq_i (k' := 0) (sl' := 0) rfl rfl ?_
        obtain ⟨-, -, lo62, hi62, -, -, lt62, hz62⟩ := pNum_ok e62
        refine V_istore_n 66 [(2, .int (nI v62)), (1, .int (nI (wcF t z p))), (0, rf G 69)] (by decide) rfl rfl dX11_readStep_65 rfl ?_
        refine V_aload_n 67 2 rfl _ rfl rfl dX11_readStep_66 rfl ?_
        refine V_iload_n 68 1 rfl rfl dX11_readStep_67 rfl ?_
        refine V_ldcSw 71 38 rfl rfl dX11_readStep_68 rfl ?_
        refine V_callS (K' := 0) (S' := 0) 74 1 [sr G 38] mkX11_of lkX11_204 rfl (Nat.le_of_ble_eq_true rfl) (Nat.le_of_ble_eq_true rfl) (Nat.le_of_ble_eq_true rfl) (Nat.le_of_ble_eq_true rfl) rfl rfl dX11_readStep_71 rfl (c_X11_of (wdo 38 (by decide) (by decide) (by decide)) ?_)
        refine Kq_i (k' := 0) (sl' := 0) rfl rfl ?_
        refine V_icmp_ne 81 77 rfl dX11_readStep_74 rfl (fun c74 => ?_) (fun c74 => absurd c74 (by rw [ekw]; decide +kernel))
        refine V_iconst 82 (2) rfl dX11_readStep_81 rfl ?_
        refine V_iload_n 83 0 rfl rfl dX11_readStep_82 rfl ?_
        refine V_aload_n 84 2 rfl _ rfl rfl dX11_readStep_83 rfl ?_
        refine V_iconst 85 (0) rfl dX11_readStep_84 rfl ?_
        refine V_iload_n 86 1 rfl rfl dX11_readStep_85 rfl ?_
        refine V_ldcSw 89 38 rfl rfl dX11_readStep_86 rfl ?_
        refine V_callS (K' := 0) (S' := 0) 92 1 [sr G 38] mkX11_of lkX11_204 rfl (Nat.le_of_ble_eq_true rfl) (Nat.le_of_ble_eq_true rfl) (Nat.le_of_ble_eq_true rfl) (Nat.le_of_ble_eq_true rfl) rfl rfl dX11_readStep_89 rfl (c_X11_of (wdo 38 (by decide) (by decide) (by decide)) ?_)
        refine Kq_i (k' := 0) (sl' := 0) rfl rfl ?_
        refine V_icmp_ne 102 95 rfl dX11_readStep_92 rfl (fun c92 => ?_) (fun c92 => absurd c92 (by rw [ekw]; decide +kernel))
        refine V_aload_n 103 2 rfl _ rfl rfl dX11_readStep_102 rfl ?_
        refine V_getI 106 69 11 22 (nI (cG K)) (show lx _ _ _ _ 69 22 = _ from by rw [lx_69 (by decide) (by decide) (by decide), ox_69 (by decide)]; exact (hK).2.1) flX11_178 rfl rfl rfl (by decide) dX11_readStep_103 rfl ?_
        refine V_iconst 107 (1) rfl dX11_readStep_106 rfl ?_
        refine V_isub 108 dX11_readStep_107 rfl ?_
        refine V_callV (K' := 0) (S' := 0) 111 69 11 2 [.int 0, .int ((nI (cG K)) - 1)] mkX11_readNumber lkX11_212 (by decide) rfl rfl (by decide) rfl (Nat.le_of_ble_eq_true rfl) (Nat.le_of_ble_eq_true rfl) (Nat.le_of_ble_eq_true rfl) (Nat.le_of_ble_eq_true rfl) rfl rfl dX11_readStep_108 rfl (c_X11_readNumber (lo := 0) (cnt := cG K) hRM (TxM.ox (o := o) hT) (by decide) (by omega) (hh_m1 (cG K) (by omega)) (enF_z (sk_z he).2.1).2.1 (fun e => absurd rfl e) (fun v108 _ e108 => ?_) (fun k108 a108 ha108 _ e108 => ?_))
        · refine Kq_i (k' := 0) (sl' := 0) rfl rfl ?_
          obtain ⟨-, -, lo108, hi108, -, -, lt108, hz108⟩ := pNum_ok e108
          refine V_callV (K' := 0) (S' := 0) 114 69 11 3 [.int 2, .int (nI v62), .int (nI v108)] mkX11_tellsStep lkX11_302 (by decide) rfl rfl (by decide) rfl (Nat.le_of_ble_eq_true rfl) (Nat.le_of_ble_eq_true rfl) (Nat.le_of_ble_eq_true rfl) (Nat.le_of_ble_eq_true rfl) rfl rfl dX11_readStep_111 rfl (c_X11_tellsStep (x := nI 2) (y := nI v62) (w := nI v108) hRM h34 (by omega) ?_)
          refine Kq_v (k' := 0) (sl' := 0) rfl rfl ?_
          refine V_goto 345 rfl dX11_readStep_114 ?_
          refine V_aload_n 346 2 rfl _ rfl rfl dX11_readStep_345 rfl ?_
          refine V_bipush 348 (59) rfl dX11_readStep_346 rfl ?_
          refine V_callV (K' := 0) (S' := 0) 351 69 11 1 [.int 59] mkX11_sign lkX11_242 (by decide) rfl rfl (by decide) rfl (Nat.le_of_ble_eq_true rfl) (Nat.le_of_ble_eq_true rfl) (Nat.le_of_ble_eq_true rfl) (Nat.le_of_ble_eq_true rfl) rfl rfl dX11_readStep_348 rfl (c_X11_sign (c := 59) hRM (TxM.ox (o := o) (ts_fr.T hT)) (by decide) (by decide) (enF_z (sk_z (enF_z (sk_z he).2.1).2.1).2.1).2.1 (fun e => absurd rfl e) (fun _ z348 s348 => ?_) (fun _ e348 => ?_))
          · refine Kq_v (k' := 0) (sl' := 0) rfl rfl ?_
            have e348 : pSig t z 59 (sk t z (enF t z (sk t z (enF t z (sk t z (enF t z p)))))) = .inr (sk t z (sk t z (enF t z (sk t z (enF t z (sk t z (enF t z p))))) + 1)) := sig_ok z348 s348 (by decide) (by decide)
            have lz348 := (pSig_ok e348).2.2.2
            refine V_ret_v rfl (Nat.le_of_ble_eq_true rfl) (fun h => absurd h (by decide)) (Nat.le_of_ble_eq_true rfl) (hk _ _ _ _ _ (pSs_o (e7.trans (bd_ok (show pOps t z K 2 (nx t z p) = .inr ((v62, v108), _) from (if_neg (by decide)).trans ((if_neg (by decide)).trans ((bd_ok e62).trans (((if_neg (by decide)).trans (if_pos rfl)).trans (bd_ok e108))))))) e348) ts_34 (fun i q1 q2 => by rw [show i = n by omega, upS_s]; exact ts_M (by decide)) ts_E ts_fr (Nat.succ_le_of_lt z348) rfl) dX11_readStep_351
          · refine Kq_v (k' := 0) (sl' := 0) rfl rfl ?_
            have nb348 : ¬ nI (sk t z (enF t z (sk t z (enF t z (sk t z (enF t z p)))))) = -1 := nI_ne (by first | omega | exact Nat.lt_of_le_of_lt (sk_z (t := t) (enF_z (sk_z (enF_z (sk_z he).2.1).2.1).2.1).2.1).2.1 (by omega))
            refine V_ret_v rfl (Nat.le_of_ble_eq_true rfl) (fun h => absurd h (by decide)) (Nat.le_of_ble_eq_true rfl) (hb 1 _ _ _ (pSs_2 (e7.trans (bd_ok (show pOps t z K 2 (nx t z p) = .inr ((v62, v108), _) from (if_neg (by decide)).trans ((if_neg (by decide)).trans ((bd_ok e62).trans (((if_neg (by decide)).trans (if_pos rfl)).trans (bd_ok e108))))))) e348) (by decide) (by decide) (by first | omega | exact (sk_z (t := t) (by assumption)).2.1) ts_fr (sk_z (enF_z (sk_z (enF_z (sk_z he).2.1).2.1).2.1).2.1).2.1) dX11_readStep_351
        · refine Kq_i (k' := 0) (sl' := 0) rfl rfl ?_
          have kk108 := pNum_k e108
          have nb108 : ¬ nI (sk t z (enF t z (sk t z (enF t z p)))) = -1 := nI_ne (by first | omega | exact Nat.lt_of_le_of_lt (sk_z (t := t) (enF_z (sk_z he).2.1).2.1).2.1 (by omega))
          refine V_callV (K' := 0) (S' := 0) 114 69 11 3 [.int 2, .int (nI v62), .int 0] mkX11_tellsStep lkX11_302 (by decide) rfl rfl (by decide) rfl (Nat.le_of_ble_eq_true rfl) (Nat.le_of_ble_eq_true rfl) (Nat.le_of_ble_eq_true rfl) (Nat.le_of_ble_eq_true rfl) rfl rfl dX11_readStep_111 rfl (c_X11_tellsStepF nb108 ?_)
          refine Kq_v (k' := 0) (sl' := 0) rfl rfl ?_
          refine V_goto 345 rfl dX11_readStep_114 ?_
          refine V_aload_n 346 2 rfl _ rfl rfl dX11_readStep_345 rfl ?_
          refine V_bipush 348 (59) rfl dX11_readStep_346 rfl ?_
          refine V_callV (K' := 0) (S' := 0) 351 69 11 1 [.int 59] mkX11_sign lkX11_242 (by decide) rfl rfl (by decide) rfl (Nat.le_of_ble_eq_true rfl) (Nat.le_of_ble_eq_true rfl) (Nat.le_of_ble_eq_true rfl) (Nat.le_of_ble_eq_true rfl) rfl rfl dX11_readStep_348 rfl (c_X11_sign (c := 59) hRM (TxM.ox (o := o) hT) (by decide) (by decide) ha108 (fun _ => ?_) (fun e _ _ => absurd e nb108) (fun e _ => absurd e nb108))
          refine Kq_v (k' := 0) (sl' := 0) rfl rfl ?_
          refine V_ret_v rfl (Nat.le_of_ble_eq_true rfl) (fun h => absurd h (by decide)) (Nat.le_of_ble_eq_true rfl) (hb _ _ _ _ (pSs_1 (e7.trans (bd_no (show pOps t z K 2 (nx t z p) = .inl (k108, _) from (if_neg (by decide)).trans ((if_neg (by decide)).trans ((bd_ok e62).trans (((if_neg (by decide)).trans (if_pos rfl)).trans (bd_no e108)))))))) kk108.1 kk108.2 (by omega) FrV.rf ha108) dX11_readStep_351
      · refine Kq_i (k' := 0) (sl' := 0) rfl rfl ?_
        have kk62 := pNum_k e62
        have nb62 : ¬ nI (sk t z (enF t z p)) = -1 := nI_ne (by first | omega | exact Nat.lt_of_le_of_lt (sk_z (t := t) he).2.1 (by omega))
        refine V_istore_n 66 [(2, .int 0), (1, .int (nI (wcF t z p))), (0, rf G 69)] (by decide) rfl rfl dX11_readStep_65 rfl ?_
        refine V_aload_n 67 2 rfl _ rfl rfl dX11_readStep_66 rfl ?_
        refine V_iload_n 68 1 rfl rfl dX11_readStep_67 rfl ?_
        refine V_ldcSw 71 38 rfl rfl dX11_readStep_68 rfl ?_
        refine V_callS (K' := 0) (S' := 0) 74 1 [sr G 38] mkX11_of lkX11_204 rfl (Nat.le_of_ble_eq_true rfl) (Nat.le_of_ble_eq_true rfl) (Nat.le_of_ble_eq_true rfl) (Nat.le_of_ble_eq_true rfl) rfl rfl dX11_readStep_71 rfl (c_X11_of (wdo 38 (by decide) (by decide) (by decide)) ?_)
        refine Kq_i (k' := 0) (sl' := 0) rfl rfl ?_
        refine V_icmp_ne 81 77 rfl dX11_readStep_74 rfl (fun c74 => ?_) (fun c74 => absurd c74 (by rw [ekw]; decide +kernel))
        refine V_iconst 82 (2) rfl dX11_readStep_81 rfl ?_
        refine V_iload_n 83 0 rfl rfl dX11_readStep_82 rfl ?_
        refine V_aload_n 84 2 rfl _ rfl rfl dX11_readStep_83 rfl ?_
        refine V_iconst 85 (0) rfl dX11_readStep_84 rfl ?_
        refine V_iload_n 86 1 rfl rfl dX11_readStep_85 rfl ?_
        refine V_ldcSw 89 38 rfl rfl dX11_readStep_86 rfl ?_
        refine V_callS (K' := 0) (S' := 0) 92 1 [sr G 38] mkX11_of lkX11_204 rfl (Nat.le_of_ble_eq_true rfl) (Nat.le_of_ble_eq_true rfl) (Nat.le_of_ble_eq_true rfl) (Nat.le_of_ble_eq_true rfl) rfl rfl dX11_readStep_89 rfl (c_X11_of (wdo 38 (by decide) (by decide) (by decide)) ?_)
        refine Kq_i (k' := 0) (sl' := 0) rfl rfl ?_
        refine V_icmp_ne 102 95 rfl dX11_readStep_92 rfl (fun c92 => ?_) (fun c92 => absurd c92 (by rw [ekw]; decide +kernel))
        refine V_aload_n 103 2 rfl _ rfl rfl dX11_readStep_102 rfl ?_
        refine V_getI 106 69 11 22 (nI (cG K)) (show lx _ _ _ _ 69 22 = _ from by rw [lx_69 (by decide) (by decide) (by decide), ox_69 (by decide)]; exact (hK).2.1) flX11_178 rfl rfl rfl (by decide) dX11_readStep_103 rfl ?_
        refine V_iconst 107 (1) rfl dX11_readStep_106 rfl ?_
        refine V_isub 108 dX11_readStep_107 rfl ?_
        refine V_callV (K' := 0) (S' := 0) 111 69 11 2 [.int 0, .int ((nI (cG K)) - 1)] mkX11_readNumber lkX11_212 (by decide) rfl rfl (by decide) rfl (Nat.le_of_ble_eq_true rfl) (Nat.le_of_ble_eq_true rfl) (Nat.le_of_ble_eq_true rfl) (Nat.le_of_ble_eq_true rfl) rfl rfl dX11_readStep_108 rfl (c_X11_readNumber (lo := 0) (cnt := cG K) hRM (TxM.ox (o := o) hT) (by decide) (by omega) (hh_m1 (cG K) (by omega)) ha62 (fun _ => ?_) (fun _ e _ => absurd e nb62) (fun _ _ _ e _ => absurd e nb62))
        refine Kq_i (k' := 0) (sl' := 0) rfl rfl ?_
        refine V_callV (K' := 0) (S' := 0) 114 69 11 3 [.int 2, .int 0, .int 0] mkX11_tellsStep lkX11_302 (by decide) rfl rfl (by decide) rfl (Nat.le_of_ble_eq_true rfl) (Nat.le_of_ble_eq_true rfl) (Nat.le_of_ble_eq_true rfl) (Nat.le_of_ble_eq_true rfl) rfl rfl dX11_readStep_111 rfl (c_X11_tellsStepF nb62 ?_)
        refine Kq_v (k' := 0) (sl' := 0) rfl rfl ?_
        refine V_goto 345 rfl dX11_readStep_114 ?_
        refine V_aload_n 346 2 rfl _ rfl rfl dX11_readStep_345 rfl ?_
        refine V_bipush 348 (59) rfl dX11_readStep_346 rfl ?_
        refine V_callV (K' := 0) (S' := 0) 351 69 11 1 [.int 59] mkX11_sign lkX11_242 (by decide) rfl rfl (by decide) rfl (Nat.le_of_ble_eq_true rfl) (Nat.le_of_ble_eq_true rfl) (Nat.le_of_ble_eq_true rfl) (Nat.le_of_ble_eq_true rfl) rfl rfl dX11_readStep_348 rfl (c_X11_sign (c := 59) hRM (TxM.ox (o := o) hT) (by decide) (by decide) ha62 (fun _ => ?_) (fun e _ _ => absurd e nb62) (fun e _ => absurd e nb62))
        refine Kq_v (k' := 0) (sl' := 0) rfl rfl ?_
        refine V_ret_v rfl (Nat.le_of_ble_eq_true rfl) (fun h => absurd h (by decide)) (Nat.le_of_ble_eq_true rfl) (hb _ _ _ _ (pSs_1 (e7.trans (bd_no (show pOps t z K 2 (nx t z p) = .inl (k62, _) from (if_neg (by decide)).trans ((if_neg (by decide)).trans (bd_no e62)))))) kk62.1 kk62.2 (by omega) FrV.rf ha62) dX11_readStep_351
    · have e7 : pSt (pAg (pBo u t z (z + 1)) t z) t z K n S p = bd (pOps t z K 3 (nx t z p)) (fun x => .inr ((n + 1, upS S n (3, x.1.1, x.1.2, n + 1)), x.2)) := by unfold pSt; rw [ek]; rfl
      refine V_aload_n 1 0 rfl _ rfl rfl dX11_readStep_0 rfl ?_
      refine V_callV (K' := 0) (S' := 0) 4 69 11 0 [] mkX11_word lkX11_227 (by decide) rfl rfl (by decide) rfl (Nat.le_of_ble_eq_true rfl) (Nat.le_of_ble_eq_true rfl) (Nat.le_of_ble_eq_true rfl) (Nat.le_of_ble_eq_true rfl) rfl rfl dX11_readStep_1 rfl (c_X11_word hRM (TxM.ox (o := o) hT) ha ?_)
      rw [← ep]
      refine Kq_i (k' := 0) (sl' := 0) rfl rfl ?_
      refine V_istore_n 5 [(1, .int (nI (wcF t z p))), (0, rf G 69)] (by decide) rfl rfl dX11_readStep_4 rfl ?_
      refine V_iload_n 6 0 rfl rfl dX11_readStep_5 rfl ?_
      refine V_ldcSw 9 37 rfl rfl dX11_readStep_6 rfl ?_
      refine V_callS (K' := 0) (S' := 0) 12 1 [sr G 37] mkX11_of lkX11_204 rfl (Nat.le_of_ble_eq_true rfl) (Nat.le_of_ble_eq_true rfl) (Nat.le_of_ble_eq_true rfl) (Nat.le_of_ble_eq_true rfl) rfl rfl dX11_readStep_9 rfl (c_X11_of (wdo 37 (by decide) (by decide) (by decide)) ?_)
      refine Kq_i (k' := 0) (sl' := 0) rfl rfl ?_
      refine V_icmp_ne 30 15 rfl dX11_readStep_12 rfl (fun c12 => ?_) (fun c12 => absurd c12 (by rw [ekw]; decide +kernel))
      refine V_iload_n 31 0 rfl rfl dX11_readStep_30 rfl ?_
      refine V_ldcSw 34 38 rfl rfl dX11_readStep_31 rfl ?_
      refine V_callS (K' := 0) (S' := 0) 37 1 [sr G 38] mkX11_of lkX11_204 rfl (Nat.le_of_ble_eq_true rfl) (Nat.le_of_ble_eq_true rfl) (Nat.le_of_ble_eq_true rfl) (Nat.le_of_ble_eq_true rfl) rfl rfl dX11_readStep_34 rfl (c_X11_of (wdo 38 (by decide) (by decide) (by decide)) ?_)
      refine Kq_i (k' := 0) (sl' := 0) rfl rfl ?_
      refine V_icmp_eq 50 40 rfl dX11_readStep_37 rfl (fun c37 => absurd c37 (by rw [ekw]; decide +kernel)) (fun c37 => ?_)
      refine V_iload_n 41 0 rfl rfl dX11_readStep_40 rfl ?_
      refine V_ldcSw 44 39 rfl rfl dX11_readStep_41 rfl ?_
      refine V_callS (K' := 0) (S' := 0) 47 1 [sr G 39] mkX11_of lkX11_204 rfl (Nat.le_of_ble_eq_true rfl) (Nat.le_of_ble_eq_true rfl) (Nat.le_of_ble_eq_true rfl) (Nat.le_of_ble_eq_true rfl) rfl rfl dX11_readStep_44 rfl (c_X11_of (wdo 39 (by decide) (by decide) (by decide)) ?_)
      refine Kq_i (k' := 0) (sl' := 0) rfl rfl ?_
      refine V_icmp_ne 117 50 rfl dX11_readStep_47 rfl (fun c47 => ?_) (fun c47 => absurd c47 (by rw [ekw]; decide +kernel))
      refine V_iload_n 118 0 rfl rfl dX11_readStep_117 rfl ?_
      refine V_ldcSw 121 40 rfl rfl dX11_readStep_118 rfl ?_
      refine V_callS (K' := 0) (S' := 0) 124 1 [sr G 40] mkX11_of lkX11_204 rfl (Nat.le_of_ble_eq_true rfl) (Nat.le_of_ble_eq_true rfl) (Nat.le_of_ble_eq_true rfl) (Nat.le_of_ble_eq_true rfl) rfl rfl dX11_readStep_121 rfl (c_X11_of (wdo 40 (by decide) (by decide) (by decide)) ?_)
      refine Kq_i (k' := 0) (sl' := 0) rfl rfl ?_
      refine V_icmp_eq 147 127 rfl dX11_readStep_124 rfl (fun c124 => absurd c124 (by rw [ekw]; decide +kernel)) (fun c124 => ?_)
      refine V_iload_n 128 0 rfl rfl dX11_readStep_127 rfl ?_
      refine V_ldcSw 131 41 rfl rfl dX11_readStep_128 rfl ?_
      refine V_callS (K' := 0) (S' := 0) 134 1 [sr G 41] mkX11_of lkX11_204 rfl (Nat.le_of_ble_eq_true rfl) (Nat.le_of_ble_eq_true rfl) (Nat.le_of_ble_eq_true rfl) (Nat.le_of_ble_eq_true rfl) rfl rfl dX11_readStep_131 rfl (c_X11_of (wdo 41 (by decide) (by decide) (by decide)) ?_)
      refine Kq_i (k' := 0) (sl' := 0) rfl rfl ?_
      refine V_icmp_eq 147 137 rfl dX11_readStep_134 rfl (fun c134 => ?_) (fun c134 => absurd (show nI (wcF t z p) = nI (ocF 41) from by rw [ekw, o41]) c134)
      refine V_aload_n 148 1 rfl _ rfl rfl dX11_readStep_147 rfl ?_
      refine V_callV (K' := 0) (S' := 0) 151 69 11 0 [] mkX11_pass lkX11_236 (by decide) rfl rfl (by decide) rfl (Nat.le_of_ble_eq_true rfl) (Nat.le_of_ble_eq_true rfl) (Nat.le_of_ble_eq_true rfl) (Nat.le_of_ble_eq_true rfl) rfl rfl dX11_readStep_148 rfl (c_X11_pass hRM (TxM.ox (o := o) hT) hs2 ?_)
      rw [kw]
      refine Kq_v (k' := 0) (sl' := 0) rfl rfl ?_
      refine V_aload_n 152 1 rfl _ rfl rfl dX11_readStep_151 rfl ?_
      refine V_iload_n 153 0 rfl rfl dX11_readStep_152 rfl ?_
      refine V_ldcSw 156 40 rfl rfl dX11_readStep_153 rfl ?_
      refine V_callS (K' := 0) (S' := 0) 159 1 [sr G 40] mkX11_of lkX11_204 rfl (Nat.le_of_ble_eq_true rfl) (Nat.le_of_ble_eq_true rfl) (Nat.le_of_ble_eq_true rfl) (Nat.le_of_ble_eq_true rfl) rfl rfl dX11_readStep_156 rfl (c_X11_of (wdo 40 (by decide) (by decide) (by decide)) ?_)
      refine Kq_i (k' := 0) (sl' := 0) rfl rfl ?_
      refine V_icmp_ne 166 162 rfl dX11_readStep_159 rfl (fun c159 => ?_) (fun c159 => absurd c159 (by rw [ekw]; decide +kernel))
      refine V_iload_n 167 0 rfl rfl dX11_readStep_166 rfl ?_
      refine V_ldcSw 170 41 rfl rfl dX11_readStep_167 rfl ?_
      refine V_callS (K' := 0) (S' := 0) 173 1 [sr G 41] mkX11_of lkX11_204 rfl (Nat.le_of_ble_eq_true rfl) (Nat.le_of_ble_eq_true rfl) (Nat.le_of_ble_eq_true rfl) (Nat.le_of_ble_eq_true rfl) rfl rfl dX11_readStep_170 rfl (c_X11_of (wdo 41 (by decide) (by decide) (by decide)) ?_)
      refine Kq_i (k' := 0) (sl' := 0) rfl rfl ?_
      refine V_icmp_ne 180 176 rfl dX11_readStep_173 rfl (fun c173 => absurd (show nI (wcF t z p) = nI (ocF 41) from by rw [ekw, o41]) c173) (fun c173 => ?_)
      refine V_iconst 177 (3) rfl dX11_readStep_176 rfl ?_
      refine V_goto 181 rfl dX11_readStep_177 ?_
      refine V_aload_n 182 1 rfl _ rfl rfl dX11_readStep_181 rfl ?_
      refine V_iconst 183 (0) rfl dX11_readStep_182 rfl ?_
      refine V_aload_n 184 1 rfl _ rfl rfl dX11_readStep_183 rfl ?_
      refine V_getI 187 69 11 23 (nI (cM K)) (show lx _ _ _ _ 69 23 = _ from by rw [lx_69 (by decide) (by decide) (by decide), ox_69 (by decide)]; exact (hK).2.2.1) flX11_181 rfl rfl rfl (by decide) dX11_readStep_184 rfl ?_
      refine V_iconst 188 (1) rfl dX11_readStep_187 rfl ?_
      refine V_isub 189 dX11_readStep_188 rfl ?_
      refine V_callV (K' := 0) (S' := 0) 192 69 11 2 [.int 0, .int ((nI (cM K)) - 1)] mkX11_readNumber lkX11_212 (by decide) rfl rfl (by decide) rfl (Nat.le_of_ble_eq_true rfl) (Nat.le_of_ble_eq_true rfl) (Nat.le_of_ble_eq_true rfl) (Nat.le_of_ble_eq_true rfl) rfl rfl dX11_readStep_189 rfl (c_X11_readNumber (lo := 0) (cnt := cM K) hRM (TxM.ox (o := o) hT) (by decide) (by omega) (hh_m1 (cM K) (by omega)) he (fun e => absurd rfl e) (fun v189 _ e189 => ?_) (fun k189 a189 ha189 _ e189 => ?_))
      · refine Kq_i (k' := 0) (sl' := 0) rfl rfl ?_
        obtain ⟨-, -, lo189, hi189, -, -, lt189, hz189⟩ := pNum_ok e189
        refine V_iconst 193 (0) rfl dX11_readStep_192 rfl ?_
        refine V_callV (K' := 0) (S' := 0) 196 69 11 3 [.int 3, .int (nI v189), .int 0] mkX11_tellsStep lkX11_302 (by decide) rfl rfl (by decide) rfl (Nat.le_of_ble_eq_true rfl) (Nat.le_of_ble_eq_true rfl) (Nat.le_of_ble_eq_true rfl) (Nat.le_of_ble_eq_true rfl) rfl rfl dX11_readStep_193 rfl (c_X11_tellsStep (x := nI 3) (y := nI v189) (w := nI 0) hRM h34 (by omega) ?_)
        refine Kq_v (k' := 0) (sl' := 0) rfl rfl ?_
        refine V_goto 345 rfl dX11_readStep_196 ?_
        refine V_aload_n 346 1 rfl _ rfl rfl dX11_readStep_345 rfl ?_
        refine V_bipush 348 (59) rfl dX11_readStep_346 rfl ?_
        refine V_callV (K' := 0) (S' := 0) 351 69 11 1 [.int 59] mkX11_sign lkX11_242 (by decide) rfl rfl (by decide) rfl (Nat.le_of_ble_eq_true rfl) (Nat.le_of_ble_eq_true rfl) (Nat.le_of_ble_eq_true rfl) (Nat.le_of_ble_eq_true rfl) rfl rfl dX11_readStep_348 rfl (c_X11_sign (c := 59) hRM (TxM.ox (o := o) (ts_fr.T hT)) (by decide) (by decide) (enF_z (sk_z he).2.1).2.1 (fun e => absurd rfl e) (fun _ z348 s348 => ?_) (fun _ e348 => ?_))
        · refine Kq_v (k' := 0) (sl' := 0) rfl rfl ?_
          have e348 : pSig t z 59 (sk t z (enF t z (sk t z (enF t z p)))) = .inr (sk t z (sk t z (enF t z (sk t z (enF t z p))) + 1)) := sig_ok z348 s348 (by decide) (by decide)
          have lz348 := (pSig_ok e348).2.2.2
          refine V_ret_v rfl (Nat.le_of_ble_eq_true rfl) (fun h => absurd h (by decide)) (Nat.le_of_ble_eq_true rfl) (hk _ _ _ _ _ (pSs_o (e7.trans (bd_ok (show pOps t z K 3 (nx t z p) = .inr ((v189, 0), _) from (if_neg (by decide)).trans ((if_neg (by decide)).trans ((bd_ok e189).trans ((if_neg (by decide)).trans (if_neg (by decide)))))))) e348) ts_34 (fun i q1 q2 => by rw [show i = n by omega, upS_s]; exact ts_M (by decide)) ts_E ts_fr (Nat.succ_le_of_lt z348) rfl) dX11_readStep_351
        · refine Kq_v (k' := 0) (sl' := 0) rfl rfl ?_
          have nb348 : ¬ nI (sk t z (enF t z (sk t z (enF t z p)))) = -1 := nI_ne (by first | omega | exact Nat.lt_of_le_of_lt (sk_z (t := t) (enF_z (sk_z he).2.1).2.1).2.1 (by omega))
          refine V_ret_v rfl (Nat.le_of_ble_eq_true rfl) (fun h => absurd h (by decide)) (Nat.le_of_ble_eq_true rfl) (hb 1 _ _ _ (pSs_2 (e7.trans (bd_ok (show pOps t z K 3 (nx t z p) = .inr ((v189, 0), _) from (if_neg (by decide)).trans ((if_neg (by decide)).trans ((bd_ok e189).trans ((if_neg (by decide)).trans (if_neg (by decide)))))))) e348) (by decide) (by decide) (by first | omega | exact (sk_z (t := t) (by assumption)).2.1) ts_fr (sk_z (enF_z (sk_z he).2.1).2.1).2.1) dX11_readStep_351
      · refine Kq_i (k' := 0) (sl' := 0) rfl rfl ?_
        have kk189 := pNum_k e189
        have nb189 : ¬ nI (sk t z (enF t z p)) = -1 := nI_ne (by first | omega | exact Nat.lt_of_le_of_lt (sk_z (t := t) he).2.1 (by omega))
        refine V_iconst 193 (0) rfl dX11_readStep_192 rfl ?_
        refine V_callV (K' := 0) (S' := 0) 196 69 11 3 [.int 3, .int 0, .int 0] mkX11_tellsStep lkX11_302 (by decide) rfl rfl (by decide) rfl (Nat.le_of_ble_eq_true rfl) (Nat.le_of_ble_eq_true rfl) (Nat.le_of_ble_eq_true rfl) (Nat.le_of_ble_eq_true rfl) rfl rfl dX11_readStep_193 rfl (c_X11_tellsStepF nb189 ?_)
        refine Kq_v (k' := 0) (sl' := 0) rfl rfl ?_
        refine V_goto 345 rfl dX11_readStep_196 ?_
        refine V_aload_n 346 1 rfl _ rfl rfl dX11_readStep_345 rfl ?_
        refine V_bipush 348 (59) rfl dX11_readStep_346 rfl ?_
        refine V_callV (K' := 0) (S' := 0) 351 69 11 1 [.int 59] mkX11_sign lkX11_242 (by decide) rfl rfl (by decide) rfl (Nat.le_of_ble_eq_true rfl) (Nat.le_of_ble_eq_true rfl) (Nat.le_of_ble_eq_true rfl) (Nat.le_of_ble_eq_true rfl) rfl rfl dX11_readStep_348 rfl (c_X11_sign (c := 59) hRM (TxM.ox (o := o) hT) (by decide) (by decide) ha189 (fun _ => ?_) (fun e _ _ => absurd e nb189) (fun e _ => absurd e nb189))
        refine Kq_v (k' := 0) (sl' := 0) rfl rfl ?_
        refine V_ret_v rfl (Nat.le_of_ble_eq_true rfl) (fun h => absurd h (by decide)) (Nat.le_of_ble_eq_true rfl) (hb _ _ _ _ (pSs_1 (e7.trans (bd_no (show pOps t z K 3 (nx t z p) = .inl (k189, _) from (if_neg (by decide)).trans ((if_neg (by decide)).trans (bd_no e189)))))) kk189.1 kk189.2 (by omega) FrV.rf ha189) dX11_readStep_351
    · have e7 : pSt (pAg (pBo u t z (z + 1)) t z) t z K n S p = bd (pOps t z K 4 (nx t z p)) (fun x => .inr ((n + 1, upS S n (4, x.1.1, x.1.2, n + 1)), x.2)) := by unfold pSt; rw [ek]; rfl
      refine V_aload_n 1 0 rfl _ rfl rfl dX11_readStep_0 rfl ?_
      refine V_callV (K' := 0) (S' := 0) 4 69 11 0 [] mkX11_word lkX11_227 (by decide) rfl rfl (by decide) rfl (Nat.le_of_ble_eq_true rfl) (Nat.le_of_ble_eq_true rfl) (Nat.le_of_ble_eq_true rfl) (Nat.le_of_ble_eq_true rfl) rfl rfl dX11_readStep_1 rfl (c_X11_word hRM (TxM.ox (o := o) hT) ha ?_)
      rw [← ep]
      refine Kq_i (k' := 0) (sl' := 0) rfl rfl ?_
      refine V_istore_n 5 [(1, .int (nI (wcF t z p))), (0, rf G 69)] (by decide) rfl rfl dX11_readStep_4 rfl ?_
      refine V_iload_n 6 0 rfl rfl dX11_readStep_5 rfl ?_
      refine V_ldcSw 9 37 rfl rfl dX11_readStep_6 rfl ?_
      refine V_callS (K' := 0) (S' := 0) 12 1 [sr G 37] mkX11_of lkX11_204 rfl (Nat.le_of_ble_eq_true rfl) (Nat.le_of_ble_eq_true rfl) (Nat.le_of_ble_eq_true rfl) (Nat.le_of_ble_eq_true rfl) rfl rfl dX11_readStep_9 rfl (c_X11_of (wdo 37 (by decide) (by decide) (by decide)) ?_)
      refine Kq_i (k' := 0) (sl' := 0) rfl rfl ?_
      refine V_icmp_ne 30 15 rfl dX11_readStep_12 rfl (fun c12 => ?_) (fun c12 => absurd c12 (by rw [ekw]; decide +kernel))
      refine V_iload_n 31 0 rfl rfl dX11_readStep_30 rfl ?_
      refine V_ldcSw 34 38 rfl rfl dX11_readStep_31 rfl ?_
      refine V_callS (K' := 0) (S' := 0) 37 1 [sr G 38] mkX11_of lkX11_204 rfl (Nat.le_of_ble_eq_true rfl) (Nat.le_of_ble_eq_true rfl) (Nat.le_of_ble_eq_true rfl) (Nat.le_of_ble_eq_true rfl) rfl rfl dX11_readStep_34 rfl (c_X11_of (wdo 38 (by decide) (by decide) (by decide)) ?_)
      refine Kq_i (k' := 0) (sl' := 0) rfl rfl ?_
      refine V_icmp_eq 50 40 rfl dX11_readStep_37 rfl (fun c37 => absurd c37 (by rw [ekw]; decide +kernel)) (fun c37 => ?_)
      refine V_iload_n 41 0 rfl rfl dX11_readStep_40 rfl ?_
      refine V_ldcSw 44 39 rfl rfl dX11_readStep_41 rfl ?_
      refine V_callS (K' := 0) (S' := 0) 47 1 [sr G 39] mkX11_of lkX11_204 rfl (Nat.le_of_ble_eq_true rfl) (Nat.le_of_ble_eq_true rfl) (Nat.le_of_ble_eq_true rfl) (Nat.le_of_ble_eq_true rfl) rfl rfl dX11_readStep_44 rfl (c_X11_of (wdo 39 (by decide) (by decide) (by decide)) ?_)
      refine Kq_i (k' := 0) (sl' := 0) rfl rfl ?_
      refine V_icmp_ne 117 50 rfl dX11_readStep_47 rfl (fun c47 => ?_) (fun c47 => absurd c47 (by rw [ekw]; decide +kernel))
      refine V_iload_n 118 0 rfl rfl dX11_readStep_117 rfl ?_
      refine V_ldcSw 121 40 rfl rfl dX11_readStep_118 rfl ?_
      refine V_callS (K' := 0) (S' := 0) 124 1 [sr G 40] mkX11_of lkX11_204 rfl (Nat.le_of_ble_eq_true rfl) (Nat.le_of_ble_eq_true rfl) (Nat.le_of_ble_eq_true rfl) (Nat.le_of_ble_eq_true rfl) rfl rfl dX11_readStep_121 rfl (c_X11_of (wdo 40 (by decide) (by decide) (by decide)) ?_)
      refine Kq_i (k' := 0) (sl' := 0) rfl rfl ?_
      refine V_icmp_eq 147 127 rfl dX11_readStep_124 rfl (fun c124 => absurd c124 (by rw [ekw]; decide +kernel)) (fun c124 => ?_)
      refine V_iload_n 128 0 rfl rfl dX11_readStep_127 rfl ?_
      refine V_ldcSw 131 41 rfl rfl dX11_readStep_128 rfl ?_
      refine V_callS (K' := 0) (S' := 0) 134 1 [sr G 41] mkX11_of lkX11_204 rfl (Nat.le_of_ble_eq_true rfl) (Nat.le_of_ble_eq_true rfl) (Nat.le_of_ble_eq_true rfl) (Nat.le_of_ble_eq_true rfl) rfl rfl dX11_readStep_131 rfl (c_X11_of (wdo 41 (by decide) (by decide) (by decide)) ?_)
      refine Kq_i (k' := 0) (sl' := 0) rfl rfl ?_
      refine V_icmp_eq 147 137 rfl dX11_readStep_134 rfl (fun c134 => absurd c134 (by rw [ekw]; decide +kernel)) (fun c134 => ?_)
      refine V_iload_n 138 0 rfl rfl dX11_readStep_137 rfl ?_
      refine V_ldcSw 141 42 rfl rfl dX11_readStep_138 rfl ?_
      refine V_callS (K' := 0) (S' := 0) 144 1 [sr G 42] mkX11_of lkX11_204 rfl (Nat.le_of_ble_eq_true rfl) (Nat.le_of_ble_eq_true rfl) (Nat.le_of_ble_eq_true rfl) (Nat.le_of_ble_eq_true rfl) rfl rfl dX11_readStep_141 rfl (c_X11_of (wdo 42 (by decide) (by decide) (by decide)) ?_)
      refine Kq_i (k' := 0) (sl' := 0) rfl rfl ?_
      refine V_icmp_ne 199 147 rfl dX11_readStep_144 rfl (fun c144 => ?_) (fun c144 => absurd c144 (by rw [ekw]; decide +kernel))
      refine V_iload_n 200 0 rfl rfl dX11_readStep_199 rfl ?_
      refine V_ldcSw 203 43 rfl rfl dX11_readStep_200 rfl ?_
      refine V_callS (K' := 0) (S' := 0) 206 1 [sr G 43] mkX11_of lkX11_204 rfl (Nat.le_of_ble_eq_true rfl) (Nat.le_of_ble_eq_true rfl) (Nat.le_of_ble_eq_true rfl) (Nat.le_of_ble_eq_true rfl) rfl rfl dX11_readStep_203 rfl (c_X11_of (wdo 43 (by decide) (by decide) (by decide)) ?_)
      refine Kq_i (k' := 0) (sl' := 0) rfl rfl ?_
      refine V_icmp_ne 233 209 rfl dX11_readStep_206 rfl (fun c206 => absurd (show nI (wcF t z p) = nI (ocF 43) from by rw [ekw, o43]) c206) (fun c206 => ?_)
      refine V_aload_n 210 1 rfl _ rfl rfl dX11_readStep_209 rfl ?_
      refine V_callV (K' := 0) (S' := 0) 213 69 11 0 [] mkX11_pass lkX11_236 (by decide) rfl rfl (by decide) rfl (Nat.le_of_ble_eq_true rfl) (Nat.le_of_ble_eq_true rfl) (Nat.le_of_ble_eq_true rfl) (Nat.le_of_ble_eq_true rfl) rfl rfl dX11_readStep_210 rfl (c_X11_pass hRM (TxM.ox (o := o) hT) hs2 ?_)
      rw [kw]
      refine Kq_v (k' := 0) (sl' := 0) rfl rfl ?_
      refine V_aload_n 214 1 rfl _ rfl rfl dX11_readStep_213 rfl ?_
      refine V_iconst 215 (4) rfl dX11_readStep_214 rfl ?_
      refine V_aload_n 216 1 rfl _ rfl rfl dX11_readStep_215 rfl ?_
      refine V_iconst 217 (0) rfl dX11_readStep_216 rfl ?_
      refine V_aload_n 218 1 rfl _ rfl rfl dX11_readStep_217 rfl ?_
      refine V_getI 221 69 11 21 (nI (cH K)) (show lx _ _ _ _ 69 21 = _ from by rw [lx_69 (by decide) (by decide) (by decide), ox_69 (by decide)]; exact (hK).1) flX11_175 rfl rfl rfl (by decide) dX11_readStep_218 rfl ?_
      refine V_iconst 222 (1) rfl dX11_readStep_221 rfl ?_
      refine V_isub 223 dX11_readStep_222 rfl ?_
      refine V_callV (K' := 0) (S' := 0) 226 69 11 2 [.int 0, .int ((nI (cH K)) - 1)] mkX11_readNumber lkX11_212 (by decide) rfl rfl (by decide) rfl (Nat.le_of_ble_eq_true rfl) (Nat.le_of_ble_eq_true rfl) (Nat.le_of_ble_eq_true rfl) (Nat.le_of_ble_eq_true rfl) rfl rfl dX11_readStep_223 rfl (c_X11_readNumber (lo := 0) (cnt := cH K) hRM (TxM.ox (o := o) hT) (by decide) (by omega) (hh_m1 (cH K) (by omega)) he (fun e => absurd rfl e) (fun v223 _ e223 => ?_) (fun k223 a223 ha223 _ e223 => ?_))
      · refine Kq_i (k' := 0) (sl' := 0) rfl rfl ?_
        obtain ⟨-, -, lo223, hi223, -, -, lt223, hz223⟩ := pNum_ok e223
        refine V_iconst 227 (0) rfl dX11_readStep_226 rfl ?_
        refine V_callV (K' := 0) (S' := 0) 230 69 11 3 [.int 4, .int (nI v223), .int 0] mkX11_tellsStep lkX11_302 (by decide) rfl rfl (by decide) rfl (Nat.le_of_ble_eq_true rfl) (Nat.le_of_ble_eq_true rfl) (Nat.le_of_ble_eq_true rfl) (Nat.le_of_ble_eq_true rfl) rfl rfl dX11_readStep_227 rfl (c_X11_tellsStep (x := nI 4) (y := nI v223) (w := nI 0) hRM h34 (by omega) ?_)
        refine Kq_v (k' := 0) (sl' := 0) rfl rfl ?_
        refine V_goto 345 rfl dX11_readStep_230 ?_
        refine V_aload_n 346 1 rfl _ rfl rfl dX11_readStep_345 rfl ?_
        refine V_bipush 348 (59) rfl dX11_readStep_346 rfl ?_
        refine V_callV (K' := 0) (S' := 0) 351 69 11 1 [.int 59] mkX11_sign lkX11_242 (by decide) rfl rfl (by decide) rfl (Nat.le_of_ble_eq_true rfl) (Nat.le_of_ble_eq_true rfl) (Nat.le_of_ble_eq_true rfl) (Nat.le_of_ble_eq_true rfl) rfl rfl dX11_readStep_348 rfl (c_X11_sign (c := 59) hRM (TxM.ox (o := o) (ts_fr.T hT)) (by decide) (by decide) (enF_z (sk_z he).2.1).2.1 (fun e => absurd rfl e) (fun _ z348 s348 => ?_) (fun _ e348 => ?_))
        · refine Kq_v (k' := 0) (sl' := 0) rfl rfl ?_
          have e348 : pSig t z 59 (sk t z (enF t z (sk t z (enF t z p)))) = .inr (sk t z (sk t z (enF t z (sk t z (enF t z p))) + 1)) := sig_ok z348 s348 (by decide) (by decide)
          have lz348 := (pSig_ok e348).2.2.2
          refine V_ret_v rfl (Nat.le_of_ble_eq_true rfl) (fun h => absurd h (by decide)) (Nat.le_of_ble_eq_true rfl) (hk _ _ _ _ _ (pSs_o (e7.trans (bd_ok (show pOps t z K 4 (nx t z p) = .inr ((v223, 0), _) from (if_neg (by decide)).trans ((if_pos rfl).trans (bd_ok e223))))) e348) ts_34 (fun i q1 q2 => by rw [show i = n by omega, upS_s]; exact ts_M (by decide)) ts_E ts_fr (Nat.succ_le_of_lt z348) rfl) dX11_readStep_351
        · refine Kq_v (k' := 0) (sl' := 0) rfl rfl ?_
          have nb348 : ¬ nI (sk t z (enF t z (sk t z (enF t z p)))) = -1 := nI_ne (by first | omega | exact Nat.lt_of_le_of_lt (sk_z (t := t) (enF_z (sk_z he).2.1).2.1).2.1 (by omega))
          refine V_ret_v rfl (Nat.le_of_ble_eq_true rfl) (fun h => absurd h (by decide)) (Nat.le_of_ble_eq_true rfl) (hb 1 _ _ _ (pSs_2 (e7.trans (bd_ok (show pOps t z K 4 (nx t z p) = .inr ((v223, 0), _) from (if_neg (by decide)).trans ((if_pos rfl).trans (bd_ok e223))))) e348) (by decide) (by decide) (by first | omega | exact (sk_z (t := t) (by assumption)).2.1) ts_fr (sk_z (enF_z (sk_z he).2.1).2.1).2.1) dX11_readStep_351
      · refine Kq_i (k' := 0) (sl' := 0) rfl rfl ?_
        have kk223 := pNum_k e223
        have nb223 : ¬ nI (sk t z (enF t z p)) = -1 := nI_ne (by first | omega | exact Nat.lt_of_le_of_lt (sk_z (t := t) he).2.1 (by omega))
        refine V_iconst 227 (0) rfl dX11_readStep_226 rfl ?_
        refine V_callV (K' := 0) (S' := 0) 230 69 11 3 [.int 4, .int 0, .int 0] mkX11_tellsStep lkX11_302 (by decide) rfl rfl (by decide) rfl (Nat.le_of_ble_eq_true rfl) (Nat.le_of_ble_eq_true rfl) (Nat.le_of_ble_eq_true rfl) (Nat.le_of_ble_eq_true rfl) rfl rfl dX11_readStep_227 rfl (c_X11_tellsStepF nb223 ?_)
        refine Kq_v (k' := 0) (sl' := 0) rfl rfl ?_
        refine V_goto 345 rfl dX11_readStep_230 ?_
        refine V_aload_n 346 1 rfl _ rfl rfl dX11_readStep_345 rfl ?_
        refine V_bipush 348 (59) rfl dX11_readStep_346 rfl ?_
        refine V_callV (K' := 0) (S' := 0) 351 69 11 1 [.int 59] mkX11_sign lkX11_242 (by decide) rfl rfl (by decide) rfl (Nat.le_of_ble_eq_true rfl) (Nat.le_of_ble_eq_true rfl) (Nat.le_of_ble_eq_true rfl) (Nat.le_of_ble_eq_true rfl) rfl rfl dX11_readStep_348 rfl (c_X11_sign (c := 59) hRM (TxM.ox (o := o) hT) (by decide) (by decide) ha223 (fun _ => ?_) (fun e _ _ => absurd e nb223) (fun e _ => absurd e nb223))
        refine Kq_v (k' := 0) (sl' := 0) rfl rfl ?_
        refine V_ret_v rfl (Nat.le_of_ble_eq_true rfl) (fun h => absurd h (by decide)) (Nat.le_of_ble_eq_true rfl) (hb _ _ _ _ (pSs_1 (e7.trans (bd_no (show pOps t z K 4 (nx t z p) = .inl (k223, _) from (if_neg (by decide)).trans ((if_pos rfl).trans (bd_no e223)))))) kk223.1 kk223.2 (by omega) FrV.rf ha223) dX11_readStep_351
    · have e7 : pSt (pAg (pBo u t z (z + 1)) t z) t z K n S p = bd (pOps t z K 5 (nx t z p)) (fun x => .inr ((n + 1, upS S n (5, x.1.1, x.1.2, n + 1)), x.2)) := by unfold pSt; rw [ek]; rfl
      refine V_aload_n 1 0 rfl _ rfl rfl dX11_readStep_0 rfl ?_
      refine V_callV (K' := 0) (S' := 0) 4 69 11 0 [] mkX11_word lkX11_227 (by decide) rfl rfl (by decide) rfl (Nat.le_of_ble_eq_true rfl) (Nat.le_of_ble_eq_true rfl) (Nat.le_of_ble_eq_true rfl) (Nat.le_of_ble_eq_true rfl) rfl rfl dX11_readStep_1 rfl (c_X11_word hRM (TxM.ox (o := o) hT) ha ?_)
      rw [← ep]
      refine Kq_i (k' := 0) (sl' := 0) rfl rfl ?_
      refine V_istore_n 5 [(1, .int (nI (wcF t z p))), (0, rf G 69)] (by decide) rfl rfl dX11_readStep_4 rfl ?_
      refine V_iload_n 6 0 rfl rfl dX11_readStep_5 rfl ?_
      refine V_ldcSw 9 37 rfl rfl dX11_readStep_6 rfl ?_
      refine V_callS (K' := 0) (S' := 0) 12 1 [sr G 37] mkX11_of lkX11_204 rfl (Nat.le_of_ble_eq_true rfl) (Nat.le_of_ble_eq_true rfl) (Nat.le_of_ble_eq_true rfl) (Nat.le_of_ble_eq_true rfl) rfl rfl dX11_readStep_9 rfl (c_X11_of (wdo 37 (by decide) (by decide) (by decide)) ?_)
      refine Kq_i (k' := 0) (sl' := 0) rfl rfl ?_
      refine V_icmp_ne 30 15 rfl dX11_readStep_12 rfl (fun c12 => ?_) (fun c12 => absurd c12 (by rw [ekw]; decide +kernel))
      refine V_iload_n 31 0 rfl rfl dX11_readStep_30 rfl ?_
      refine V_ldcSw 34 38 rfl rfl dX11_readStep_31 rfl ?_
      refine V_callS (K' := 0) (S' := 0) 37 1 [sr G 38] mkX11_of lkX11_204 rfl (Nat.le_of_ble_eq_true rfl) (Nat.le_of_ble_eq_true rfl) (Nat.le_of_ble_eq_true rfl) (Nat.le_of_ble_eq_true rfl) rfl rfl dX11_readStep_34 rfl (c_X11_of (wdo 38 (by decide) (by decide) (by decide)) ?_)
      refine Kq_i (k' := 0) (sl' := 0) rfl rfl ?_
      refine V_icmp_eq 50 40 rfl dX11_readStep_37 rfl (fun c37 => absurd c37 (by rw [ekw]; decide +kernel)) (fun c37 => ?_)
      refine V_iload_n 41 0 rfl rfl dX11_readStep_40 rfl ?_
      refine V_ldcSw 44 39 rfl rfl dX11_readStep_41 rfl ?_
      refine V_callS (K' := 0) (S' := 0) 47 1 [sr G 39] mkX11_of lkX11_204 rfl (Nat.le_of_ble_eq_true rfl) (Nat.le_of_ble_eq_true rfl) (Nat.le_of_ble_eq_true rfl) (Nat.le_of_ble_eq_true rfl) rfl rfl dX11_readStep_44 rfl (c_X11_of (wdo 39 (by decide) (by decide) (by decide)) ?_)
      refine Kq_i (k' := 0) (sl' := 0) rfl rfl ?_
      refine V_icmp_ne 117 50 rfl dX11_readStep_47 rfl (fun c47 => ?_) (fun c47 => absurd c47 (by rw [ekw]; decide +kernel))
      refine V_iload_n 118 0 rfl rfl dX11_readStep_117 rfl ?_
      refine V_ldcSw 121 40 rfl rfl dX11_readStep_118 rfl ?_
      refine V_callS (K' := 0) (S' := 0) 124 1 [sr G 40] mkX11_of lkX11_204 rfl (Nat.le_of_ble_eq_true rfl) (Nat.le_of_ble_eq_true rfl) (Nat.le_of_ble_eq_true rfl) (Nat.le_of_ble_eq_true rfl) rfl rfl dX11_readStep_121 rfl (c_X11_of (wdo 40 (by decide) (by decide) (by decide)) ?_)
      refine Kq_i (k' := 0) (sl' := 0) rfl rfl ?_
      refine V_icmp_eq 147 127 rfl dX11_readStep_124 rfl (fun c124 => absurd c124 (by rw [ekw]; decide +kernel)) (fun c124 => ?_)
      refine V_iload_n 128 0 rfl rfl dX11_readStep_127 rfl ?_
      refine V_ldcSw 131 41 rfl rfl dX11_readStep_128 rfl ?_
      refine V_callS (K' := 0) (S' := 0) 134 1 [sr G 41] mkX11_of lkX11_204 rfl (Nat.le_of_ble_eq_true rfl) (Nat.le_of_ble_eq_true rfl) (Nat.le_of_ble_eq_true rfl) (Nat.le_of_ble_eq_true rfl) rfl rfl dX11_readStep_131 rfl (c_X11_of (wdo 41 (by decide) (by decide) (by decide)) ?_)
      refine Kq_i (k' := 0) (sl' := 0) rfl rfl ?_
      refine V_icmp_eq 147 137 rfl dX11_readStep_134 rfl (fun c134 => absurd c134 (by rw [ekw]; decide +kernel)) (fun c134 => ?_)
      refine V_iload_n 138 0 rfl rfl dX11_readStep_137 rfl ?_
      refine V_ldcSw 141 42 rfl rfl dX11_readStep_138 rfl ?_
      refine V_callS (K' := 0) (S' := 0) 144 1 [sr G 42] mkX11_of lkX11_204 rfl (Nat.le_of_ble_eq_true rfl) (Nat.le_of_ble_eq_true rfl) (Nat.le_of_ble_eq_true rfl) (Nat.le_of_ble_eq_true rfl) rfl rfl dX11_readStep_141 rfl (c_X11_of (wdo 42 (by decide) (by decide) (by decide)) ?_)
      refine Kq_i (k' := 0) (sl' := 0) rfl rfl ?_
      refine V_icmp_ne 199 147 rfl dX11_readStep_144 rfl (fun c144 => absurd (show nI (wcF t z p) = nI (ocF 42) from by rw [ekw, o42]) c144) (fun c144 => ?_)
      refine V_aload_n 148 1 rfl _ rfl rfl dX11_readStep_147 rfl ?_
      refine V_callV (K' := 0) (S' := 0) 151 69 11 0 [] mkX11_pass lkX11_236 (by decide) rfl rfl (by decide) rfl (Nat.le_of_ble_eq_true rfl) (Nat.le_of_ble_eq_true rfl) (Nat.le_of_ble_eq_true rfl) (Nat.le_of_ble_eq_true rfl) rfl rfl dX11_readStep_148 rfl (c_X11_pass hRM (TxM.ox (o := o) hT) hs2 ?_)
      rw [kw]
      refine Kq_v (k' := 0) (sl' := 0) rfl rfl ?_
      refine V_aload_n 152 1 rfl _ rfl rfl dX11_readStep_151 rfl ?_
      refine V_iload_n 153 0 rfl rfl dX11_readStep_152 rfl ?_
      refine V_ldcSw 156 40 rfl rfl dX11_readStep_153 rfl ?_
      refine V_callS (K' := 0) (S' := 0) 159 1 [sr G 40] mkX11_of lkX11_204 rfl (Nat.le_of_ble_eq_true rfl) (Nat.le_of_ble_eq_true rfl) (Nat.le_of_ble_eq_true rfl) (Nat.le_of_ble_eq_true rfl) rfl rfl dX11_readStep_156 rfl (c_X11_of (wdo 40 (by decide) (by decide) (by decide)) ?_)
      refine Kq_i (k' := 0) (sl' := 0) rfl rfl ?_
      refine V_icmp_ne 166 162 rfl dX11_readStep_159 rfl (fun c159 => ?_) (fun c159 => absurd c159 (by rw [ekw]; decide +kernel))
      refine V_iload_n 167 0 rfl rfl dX11_readStep_166 rfl ?_
      refine V_ldcSw 170 41 rfl rfl dX11_readStep_167 rfl ?_
      refine V_callS (K' := 0) (S' := 0) 173 1 [sr G 41] mkX11_of lkX11_204 rfl (Nat.le_of_ble_eq_true rfl) (Nat.le_of_ble_eq_true rfl) (Nat.le_of_ble_eq_true rfl) (Nat.le_of_ble_eq_true rfl) rfl rfl dX11_readStep_170 rfl (c_X11_of (wdo 41 (by decide) (by decide) (by decide)) ?_)
      refine Kq_i (k' := 0) (sl' := 0) rfl rfl ?_
      refine V_icmp_ne 180 176 rfl dX11_readStep_173 rfl (fun c173 => ?_) (fun c173 => absurd c173 (by rw [ekw]; decide +kernel))
      refine V_iconst 181 (5) rfl dX11_readStep_180 rfl ?_
      refine V_aload_n 182 1 rfl _ rfl rfl dX11_readStep_181 rfl ?_
      refine V_iconst 183 (0) rfl dX11_readStep_182 rfl ?_
      refine V_aload_n 184 1 rfl _ rfl rfl dX11_readStep_183 rfl ?_
      refine V_getI 187 69 11 23 (nI (cM K)) (show lx _ _ _ _ 69 23 = _ from by rw [lx_69 (by decide) (by decide) (by decide), ox_69 (by decide)]; exact (hK).2.2.1) flX11_181 rfl rfl rfl (by decide) dX11_readStep_184 rfl ?_
      refine V_iconst 188 (1) rfl dX11_readStep_187 rfl ?_
      refine V_isub 189 dX11_readStep_188 rfl ?_
      refine V_callV (K' := 0) (S' := 0) 192 69 11 2 [.int 0, .int ((nI (cM K)) - 1)] mkX11_readNumber lkX11_212 (by decide) rfl rfl (by decide) rfl (Nat.le_of_ble_eq_true rfl) (Nat.le_of_ble_eq_true rfl) (Nat.le_of_ble_eq_true rfl) (Nat.le_of_ble_eq_true rfl) rfl rfl dX11_readStep_189 rfl (c_X11_readNumber (lo := 0) (cnt := cM K) hRM (TxM.ox (o := o) hT) (by decide) (by omega) (hh_m1 (cM K) (by omega)) he (fun e => absurd rfl e) (fun v189 _ e189 => ?_) (fun k189 a189 ha189 _ e189 => ?_))
      · refine Kq_i (k' := 0) (sl' := 0) rfl rfl ?_
        obtain ⟨-, -, lo189, hi189, -, -, lt189, hz189⟩ := pNum_ok e189
        refine V_iconst 193 (0) rfl dX11_readStep_192 rfl ?_
        refine V_callV (K' := 0) (S' := 0) 196 69 11 3 [.int 5, .int (nI v189), .int 0] mkX11_tellsStep lkX11_302 (by decide) rfl rfl (by decide) rfl (Nat.le_of_ble_eq_true rfl) (Nat.le_of_ble_eq_true rfl) (Nat.le_of_ble_eq_true rfl) (Nat.le_of_ble_eq_true rfl) rfl rfl dX11_readStep_193 rfl (c_X11_tellsStep (x := nI 5) (y := nI v189) (w := nI 0) hRM h34 (by omega) ?_)
        refine Kq_v (k' := 0) (sl' := 0) rfl rfl ?_
        refine V_goto 345 rfl dX11_readStep_196 ?_
        refine V_aload_n 346 1 rfl _ rfl rfl dX11_readStep_345 rfl ?_
        refine V_bipush 348 (59) rfl dX11_readStep_346 rfl ?_
        refine V_callV (K' := 0) (S' := 0) 351 69 11 1 [.int 59] mkX11_sign lkX11_242 (by decide) rfl rfl (by decide) rfl (Nat.le_of_ble_eq_true rfl) (Nat.le_of_ble_eq_true rfl) (Nat.le_of_ble_eq_true rfl) (Nat.le_of_ble_eq_true rfl) rfl rfl dX11_readStep_348 rfl (c_X11_sign (c := 59) hRM (TxM.ox (o := o) (ts_fr.T hT)) (by decide) (by decide) (enF_z (sk_z he).2.1).2.1 (fun e => absurd rfl e) (fun _ z348 s348 => ?_) (fun _ e348 => ?_))
        · refine Kq_v (k' := 0) (sl' := 0) rfl rfl ?_
          have e348 : pSig t z 59 (sk t z (enF t z (sk t z (enF t z p)))) = .inr (sk t z (sk t z (enF t z (sk t z (enF t z p))) + 1)) := sig_ok z348 s348 (by decide) (by decide)
          have lz348 := (pSig_ok e348).2.2.2
          refine V_ret_v rfl (Nat.le_of_ble_eq_true rfl) (fun h => absurd h (by decide)) (Nat.le_of_ble_eq_true rfl) (hk _ _ _ _ _ (pSs_o (e7.trans (bd_ok (show pOps t z K 5 (nx t z p) = .inr ((v189, 0), _) from (if_neg (by decide)).trans ((if_neg (by decide)).trans ((bd_ok e189).trans ((if_neg (by decide)).trans (if_neg (by decide)))))))) e348) ts_34 (fun i q1 q2 => by rw [show i = n by omega, upS_s]; exact ts_M (by decide)) ts_E ts_fr (Nat.succ_le_of_lt z348) rfl) dX11_readStep_351
        · refine Kq_v (k' := 0) (sl' := 0) rfl rfl ?_
          have nb348 : ¬ nI (sk t z (enF t z (sk t z (enF t z p)))) = -1 := nI_ne (by first | omega | exact Nat.lt_of_le_of_lt (sk_z (t := t) (enF_z (sk_z he).2.1).2.1).2.1 (by omega))
          refine V_ret_v rfl (Nat.le_of_ble_eq_true rfl) (fun h => absurd h (by decide)) (Nat.le_of_ble_eq_true rfl) (hb 1 _ _ _ (pSs_2 (e7.trans (bd_ok (show pOps t z K 5 (nx t z p) = .inr ((v189, 0), _) from (if_neg (by decide)).trans ((if_neg (by decide)).trans ((bd_ok e189).trans ((if_neg (by decide)).trans (if_neg (by decide)))))))) e348) (by decide) (by decide) (by first | omega | exact (sk_z (t := t) (by assumption)).2.1) ts_fr (sk_z (enF_z (sk_z he).2.1).2.1).2.1) dX11_readStep_351
      · refine Kq_i (k' := 0) (sl' := 0) rfl rfl ?_
        have kk189 := pNum_k e189
        have nb189 : ¬ nI (sk t z (enF t z p)) = -1 := nI_ne (by first | omega | exact Nat.lt_of_le_of_lt (sk_z (t := t) he).2.1 (by omega))
        refine V_iconst 193 (0) rfl dX11_readStep_192 rfl ?_
        refine V_callV (K' := 0) (S' := 0) 196 69 11 3 [.int 5, .int 0, .int 0] mkX11_tellsStep lkX11_302 (by decide) rfl rfl (by decide) rfl (Nat.le_of_ble_eq_true rfl) (Nat.le_of_ble_eq_true rfl) (Nat.le_of_ble_eq_true rfl) (Nat.le_of_ble_eq_true rfl) rfl rfl dX11_readStep_193 rfl (c_X11_tellsStepF nb189 ?_)
        refine Kq_v (k' := 0) (sl' := 0) rfl rfl ?_
        refine V_goto 345 rfl dX11_readStep_196 ?_
        refine V_aload_n 346 1 rfl _ rfl rfl dX11_readStep_345 rfl ?_
        refine V_bipush 348 (59) rfl dX11_readStep_346 rfl ?_
        refine V_callV (K' := 0) (S' := 0) 351 69 11 1 [.int 59] mkX11_sign lkX11_242 (by decide) rfl rfl (by decide) rfl (Nat.le_of_ble_eq_true rfl) (Nat.le_of_ble_eq_true rfl) (Nat.le_of_ble_eq_true rfl) (Nat.le_of_ble_eq_true rfl) rfl rfl dX11_readStep_348 rfl (c_X11_sign (c := 59) hRM (TxM.ox (o := o) hT) (by decide) (by decide) ha189 (fun _ => ?_) (fun e _ _ => absurd e nb189) (fun e _ => absurd e nb189))
        refine Kq_v (k' := 0) (sl' := 0) rfl rfl ?_
        refine V_ret_v rfl (Nat.le_of_ble_eq_true rfl) (fun h => absurd h (by decide)) (Nat.le_of_ble_eq_true rfl) (hb _ _ _ _ (pSs_1 (e7.trans (bd_no (show pOps t z K 5 (nx t z p) = .inl (k189, _) from (if_neg (by decide)).trans ((if_neg (by decide)).trans (bd_no e189)))))) kk189.1 kk189.2 (by omega) FrV.rf ha189) dX11_readStep_351
    · have e7 : pSt (pAg (pBo u t z (z + 1)) t z) t z K n S p = bd (pOps t z K 6 (nx t z p)) (fun x => .inr ((n + 1, upS S n (6, x.1.1, x.1.2, n + 1)), x.2)) := by unfold pSt; rw [ek]; rfl
      refine V_aload_n 1 0 rfl _ rfl rfl dX11_readStep_0 rfl ?_
      refine V_callV (K' := 0) (S' := 0) 4 69 11 0 [] mkX11_word lkX11_227 (by decide) rfl rfl (by decide) rfl (Nat.le_of_ble_eq_true rfl) (Nat.le_of_ble_eq_true rfl) (Nat.le_of_ble_eq_true rfl) (Nat.le_of_ble_eq_true rfl) rfl rfl dX11_readStep_1 rfl (c_X11_word hRM (TxM.ox (o := o) hT) ha ?_)
      rw [← ep]
      refine Kq_i (k' := 0) (sl' := 0) rfl rfl ?_
      refine V_istore_n 5 [(1, .int (nI (wcF t z p))), (0, rf G 69)] (by decide) rfl rfl dX11_readStep_4 rfl ?_
      refine V_iload_n 6 0 rfl rfl dX11_readStep_5 rfl ?_
      refine V_ldcSw 9 37 rfl rfl dX11_readStep_6 rfl ?_
      refine V_callS (K' := 0) (S' := 0) 12 1 [sr G 37] mkX11_of lkX11_204 rfl (Nat.le_of_ble_eq_true rfl) (Nat.le_of_ble_eq_true rfl) (Nat.le_of_ble_eq_true rfl) (Nat.le_of_ble_eq_true rfl) rfl rfl dX11_readStep_9 rfl (c_X11_of (wdo 37 (by decide) (by decide) (by decide)) ?_)
      refine Kq_i (k' := 0) (sl' := 0) rfl rfl ?_
      refine V_icmp_ne 30 15 rfl dX11_readStep_12 rfl (fun c12 => absurd (show nI (wcF t z p) = nI (ocF 37) from by rw [ekw, o37]) c12) (fun c12 => ?_)
      refine V_aload_n 16 1 rfl _ rfl rfl dX11_readStep_15 rfl ?_
      refine V_callV (K' := 0) (S' := 0) 19 69 11 0 [] mkX11_pass lkX11_236 (by decide) rfl rfl (by decide) rfl (Nat.le_of_ble_eq_true rfl) (Nat.le_of_ble_eq_true rfl) (Nat.le_of_ble_eq_true rfl) (Nat.le_of_ble_eq_true rfl) rfl rfl dX11_readStep_16 rfl (c_X11_pass hRM (TxM.ox (o := o) hT) hs2 ?_)
      rw [kw]
      refine Kq_v (k' := 0) (sl' := 0) rfl rfl ?_
      refine V_aload_n 20 1 rfl _ rfl rfl dX11_readStep_19 rfl ?_
      refine V_bipush 22 (6) rfl dX11_readStep_20 rfl ?_
      refine V_iconst 23 (0) rfl dX11_readStep_22 rfl ?_
      refine V_iconst 24 (0) rfl dX11_readStep_23 rfl ?_
      refine V_callV (K' := 0) (S' := 0) 27 69 11 3 [.int 6, .int 0, .int 0] mkX11_tellsStep lkX11_302 (by decide) rfl rfl (by decide) rfl (Nat.le_of_ble_eq_true rfl) (Nat.le_of_ble_eq_true rfl) (Nat.le_of_ble_eq_true rfl) (Nat.le_of_ble_eq_true rfl) rfl rfl dX11_readStep_24 rfl (c_X11_tellsStep (x := nI 6) (y := nI 0) (w := nI 0) hRM h34 (by omega) ?_)
      refine Kq_v (k' := 0) (sl' := 0) rfl rfl ?_
      refine V_goto 345 rfl dX11_readStep_27 ?_
      refine V_aload_n 346 1 rfl _ rfl rfl dX11_readStep_345 rfl ?_
      refine V_bipush 348 (59) rfl dX11_readStep_346 rfl ?_
      refine V_callV (K' := 0) (S' := 0) 351 69 11 1 [.int 59] mkX11_sign lkX11_242 (by decide) rfl rfl (by decide) rfl (Nat.le_of_ble_eq_true rfl) (Nat.le_of_ble_eq_true rfl) (Nat.le_of_ble_eq_true rfl) (Nat.le_of_ble_eq_true rfl) rfl rfl dX11_readStep_348 rfl (c_X11_sign (c := 59) hRM (TxM.ox (o := o) (ts_fr.T hT)) (by decide) (by decide) he (fun e => absurd rfl e) (fun _ z348 s348 => ?_) (fun _ e348 => ?_))
      · refine Kq_v (k' := 0) (sl' := 0) rfl rfl ?_
        have e348 : pSig t z 59 (sk t z (enF t z p)) = .inr (sk t z (sk t z (enF t z p) + 1)) := sig_ok z348 s348 (by decide) (by decide)
        have lz348 := (pSig_ok e348).2.2.2
        refine V_ret_v rfl (Nat.le_of_ble_eq_true rfl) (fun h => absurd h (by decide)) (Nat.le_of_ble_eq_true rfl) (hk _ _ _ _ _ (pSs_o (e7.trans (bd_ok (show pOps t z K 6 (nx t z p) = .inr ((0, 0), _) from if_pos rfl))) e348) ts_34 (fun i q1 q2 => by rw [show i = n by omega, upS_s]; exact ts_M (by decide)) ts_E ts_fr (Nat.succ_le_of_lt z348) rfl) dX11_readStep_351
      · refine Kq_v (k' := 0) (sl' := 0) rfl rfl ?_
        have nb348 : ¬ nI (sk t z (enF t z p)) = -1 := nI_ne (by first | omega | exact Nat.lt_of_le_of_lt (sk_z (t := t) he).2.1 (by omega))
        refine V_ret_v rfl (Nat.le_of_ble_eq_true rfl) (fun h => absurd h (by decide)) (Nat.le_of_ble_eq_true rfl) (hb 1 _ _ _ (pSs_2 (e7.trans (bd_ok (show pOps t z K 6 (nx t z p) = .inr ((0, 0), _) from if_pos rfl))) e348) (by decide) (by decide) (by first | omega | exact (sk_z (t := t) (by assumption)).2.1) ts_fr (sk_z he).2.1) dX11_readStep_351
    · have e7 : pSt (pAg (pBo u t z (z + 1)) t z) t z K n S p = pAg (pBo u t z (z + 1)) t z n S p := by unfold pSt; rw [ek]; rfl
      have hy : p + 5 = enF t z p := by have q := ((wc_iff hs2 (wdo 22 (by decide) (by decide) (by decide))).mp ekw).1; rw [show stL 22 = 5 from rfl] at q; omega
      have hbad : ∀ a1 I1 kd q, 0 < kd → kd ≤ 3 → q ≤ z → a1 ≤ z → FrV I I1 → pAg (pBo u t z (z + 1)) t z n S p = .inl (kd, q) → V G mX11_readStep (m + 20) 0 0 0 0 298 [(3, .int (nI (3 * n))), (0, rf G 69)] [] 103 (lx (ox I1 (o + 1)) a1 (nI q) (nI kd)) R J Q := by
        intro a1 I1 kd q hk1 hk3 hq ha1 hF e1
        have nb : ¬ nI q = -1 := nI_ne (by omega)
        have hT1 := hF.T hT
        refine V_aload_n 299 1 rfl _ rfl rfl dX11_readStep_298 rfl ?_
        refine V_bipush 301 (93) rfl dX11_readStep_299 rfl ?_
        refine V_callV (K' := 0) (S' := 0) 304 69 11 1 [.int 93] mkX11_sign lkX11_242 (by decide) rfl rfl (by decide) rfl (Nat.le_of_ble_eq_true rfl) (Nat.le_of_ble_eq_true rfl) (Nat.le_of_ble_eq_true rfl) (Nat.le_of_ble_eq_true rfl) rfl rfl dX11_readStep_301 rfl (c_X11_sign (c := 93) hRM (TxM.ox (o := o + 1) hT1) (by decide) (by decide) ha1 (fun _ => ?_) (fun e _ _ => absurd e nb) (fun e _ => absurd e nb))
        refine Kq_v (k' := 0) (sl' := 0) rfl rfl ?_
        refine V_aload_n 305 1 rfl _ rfl rfl dX11_readStep_304 rfl ?_
        refine V_dup 306 rfl dX11_readStep_305 rfl ?_
        refine V_getI 309 69 11 7 (nI (o + 1)) (show lx _ _ _ _ 69 7 = _ from by rw [lx_69 (by decide) (by decide) (by decide)]; exact ox_7) flX11_163 rfl rfl rfl (by decide) dX11_readStep_306 rfl ?_
        refine V_iconst 310 (1) rfl dX11_readStep_309 rfl ?_
        refine V_isub 311 dX11_readStep_310 rfl ?_
        refine V_rw (nI_pred o) ?_
        refine V_putI 314 69 11 7 flX11_163 rfl rfl rfl (by decide) rfl dX11_readStep_311 rfl ?_
        rw [lx_up (fun _ => by decide), ox_ox]
        refine V_aload_n 315 1 rfl _ rfl rfl dX11_readStep_314 rfl ?_
        refine V_callV (K' := 0) (S' := 0) 318 69 11 0 [] mkX11_fine lkX11_152 (by decide) rfl rfl (by decide) rfl (Nat.le_of_ble_eq_true rfl) (Nat.le_of_ble_eq_true rfl) (Nat.le_of_ble_eq_true rfl) (Nat.le_of_ble_eq_true rfl) rfl rfl dX11_readStep_315 rfl (c_X11_fine (fun e => absurd e nb) (fun _ => ?_))
        refine Kq_i (k' := 0) (sl' := 0) rfl rfl ?_
        refine V_if_eq 333 321 rfl dX11_readStep_318 rfl (fun c318 => ?_) (fun c318 => absurd c318 (by decide))
        refine V_goto 345 rfl dX11_readStep_333 ?_
        refine V_aload_n 346 1 rfl _ rfl rfl dX11_readStep_345 rfl ?_
        refine V_bipush 348 (59) rfl dX11_readStep_346 rfl ?_
        refine V_callV (K' := 0) (S' := 0) 351 69 11 1 [.int 59] mkX11_sign lkX11_242 (by decide) rfl rfl (by decide) rfl (Nat.le_of_ble_eq_true rfl) (Nat.le_of_ble_eq_true rfl) (Nat.le_of_ble_eq_true rfl) (Nat.le_of_ble_eq_true rfl) rfl rfl dX11_readStep_348 rfl (c_X11_sign (c := 59) hRM (TxM.ox (o := o) hT1) (by decide) (by decide) ha1 (fun _ => ?_) (fun e _ _ => absurd e nb) (fun e _ => absurd e nb))
        refine Kq_v (k' := 0) (sl' := 0) rfl rfl ?_
        refine V_ret_v rfl (Nat.le_of_ble_eq_true rfl) (fun h => absurd h (by decide)) (Nat.le_of_ble_eq_true rfl) (hb _ _ _ _ (pSs_1 (e7.trans e1)) hk1 hk3 hq hF ha1) dX11_readStep_351
      have L : ∀ v q0, pNum t z 0 31 (nx t z p) = .inr (v, q0) → ∀ q1, pSig t z 91 q0 = .inr q1 → p + 7 ≤ q1 → q1 ≤ z → ∀ f n1 S1 a1 I1, z - sk t z a1 < f → a1 ≤ z → n + 1 ≤ n1 → 5 * n1 + q1 ≤ 5 * (n + 1) + sk t z a1 → I1 69 34 = nI (3 * n1) → StM I1 (n + 1) n1 S1 → (∀ j, j < n + 1 → S1 j = upS S n (7, v, 0, 0) j) → EM (tsI I n 7 (nI v) 0) I1 (n + 1) → FrV I I1 → pBo u t z (z + 1) (n + 1) (upS S n (7, v, 0, 0)) q1 = pBo u t z f n1 S1 (sk t z a1) → V G mX11_readStep (m + 20) 0 0 0 0 275 [(3, .int (nI (3 * n))), (0, rf G 69)] [] 103 (lx (ox I1 (o + 1)) a1 (-1) k) R J Q := by
        intro v q0 en0 q1 eq1 hq17 hq1z f
        obtain ⟨X, eX⟩ : ∃ X, X = pBo u t z (z + 1) (n + 1) (upS S n (7, v, 0, 0)) q1 := ⟨_, rfl⟩
        rw [← eX]
        induction f with
        | zero => intro n1 S1 a1 I1 hf; omega
        | succ f ih =>
          intro n1 S1 a1 I1 hf ha1 hn1 h51 h341 hR1 hS1 hE1 hF1 eq
          have hT1 := hF1.T hT
          obtain ⟨r1, r2, r3⟩ := sk_z (t := t) ha1
          obtain ⟨p1, ep1⟩ : ∃ p1, p1 = sk t z a1 := ⟨_, rfl⟩
          have esk1 := sk_sk (t := t) ha1
          rw [← ep1] at eq r1 r2 hf h51 esk1
          rw [pBo] at eq
          by_cases c93 : p1 < z ∧ t p1 = 93
          · rw [if_pos c93] at eq
            have e93 : pSig t z 93 p1 = .inr (sk t z (p1 + 1)) := sig_ok c93.1 c93.2 (by decide) (by decide)
            have eA : pAg (pBo u t z (z + 1)) t z n S p = .inr ((n1, upS S1 n (7, v, 0, n1)), sk t z (p1 + 1)) := (bd_ok en0).trans ((bd_ok eq1).trans ((bd_ok (eX.symm.trans eq)).trans (bd_ok e93)))
            have s34 : I1 69 34 = nI (3 * n1) := h341
            have hR9 := againM_R hR1 hE1 hS1
            refine V_aload_n 276 1 rfl _ rfl rfl dX11_readStep_275 rfl ?_
            refine V_callV (K' := 0) (S' := 0) 279 69 11 0 [] mkX11_fine lkX11_152 (by decide) rfl rfl (by decide) rfl (Nat.le_of_ble_eq_true rfl) (Nat.le_of_ble_eq_true rfl) (Nat.le_of_ble_eq_true rfl) (Nat.le_of_ble_eq_true rfl) rfl rfl dX11_readStep_276 rfl (c_X11_fine (fun _ => ?_) (fun e => absurd rfl e))
            refine Kq_i (k' := 0) (sl' := 0) rfl rfl ?_
            refine V_if_eq 298 282 rfl dX11_readStep_279 rfl (fun c279 => absurd c279 (by decide)) (fun c279 => ?_)
            refine V_aload_n 283 1 rfl _ rfl rfl dX11_readStep_282 rfl ?_
            refine V_callV (K' := 0) (S' := 0) 286 69 11 0 [] mkX11_here lkX11_135 (by decide) rfl rfl (by decide) rfl (Nat.le_of_ble_eq_true rfl) (Nat.le_of_ble_eq_true rfl) (Nat.le_of_ble_eq_true rfl) (Nat.le_of_ble_eq_true rfl) rfl rfl dX11_readStep_283 rfl (c_X11_here hRM (TxM.ox (o := o + 1) hT1) ha1 ?_)
            rw [← ep1]
            rw [if_pos c93.1, c93.2, show nI 93 = (93 : Int32) from rfl]
            refine Kq_i (k' := 0) (sl' := 0) rfl rfl ?_
            refine V_bipush 288 (93) rfl dX11_readStep_286 rfl ?_
            refine V_icmp_eq 298 291 rfl dX11_readStep_288 rfl (fun c288 => ?_) (fun c288 => absurd c288 (by decide))
            refine V_aload_n 299 1 rfl _ rfl rfl dX11_readStep_298 rfl ?_
            refine V_bipush 301 (93) rfl dX11_readStep_299 rfl ?_
            refine V_callV (K' := 0) (S' := 0) 304 69 11 1 [.int 93] mkX11_sign lkX11_242 (by decide) rfl rfl (by decide) rfl (Nat.le_of_ble_eq_true rfl) (Nat.le_of_ble_eq_true rfl) (Nat.le_of_ble_eq_true rfl) (Nat.le_of_ble_eq_true rfl) rfl rfl dX11_readStep_301 rfl (c_X11_sign (c := 93) hRM (TxM.ox (o := o + 1) hT1) (by decide) (by decide) r2 (fun e => absurd rfl e) (fun _ _ _ => ?_) (fun _ e => absurd c93 (pSig_no (by rw [esk1] at e; exact e)).2.2))
            rw [esk1]
            refine Kq_v (k' := 0) (sl' := 0) rfl rfl ?_
            refine V_aload_n 305 1 rfl _ rfl rfl dX11_readStep_304 rfl ?_
            refine V_dup 306 rfl dX11_readStep_305 rfl ?_
            refine V_getI 309 69 11 7 (nI (o + 1)) (show lx _ _ _ _ 69 7 = _ from by rw [lx_69 (by decide) (by decide) (by decide)]; exact ox_7) flX11_163 rfl rfl rfl (by decide) dX11_readStep_306 rfl ?_
            refine V_iconst 310 (1) rfl dX11_readStep_309 rfl ?_
            refine V_isub 311 dX11_readStep_310 rfl ?_
            refine V_rw (nI_pred o) ?_
            refine V_putI 314 69 11 7 flX11_163 rfl rfl rfl (by decide) rfl dX11_readStep_311 rfl ?_
            rw [lx_up (fun _ => by decide), ox_ox]
            refine V_aload_n 315 1 rfl _ rfl rfl dX11_readStep_314 rfl ?_
            refine V_callV (K' := 0) (S' := 0) 318 69 11 0 [] mkX11_fine lkX11_152 (by decide) rfl rfl (by decide) rfl (Nat.le_of_ble_eq_true rfl) (Nat.le_of_ble_eq_true rfl) (Nat.le_of_ble_eq_true rfl) (Nat.le_of_ble_eq_true rfl) rfl rfl dX11_readStep_315 rfl (c_X11_fine (fun _ => ?_) (fun e => absurd rfl e))
            refine Kq_i (k' := 0) (sl' := 0) rfl rfl ?_
            refine V_if_eq 333 321 rfl dX11_readStep_318 rfl (fun c318 => absurd c318 (by decide)) (fun c318 => ?_)
            refine V_aload_n 322 1 rfl _ rfl rfl dX11_readStep_321 rfl ?_
            refine V_getR 325 69 11 32 86 (hRM 32) flX11_65 rfl rfl rfl (by decide) dX11_readStep_322 rfl ?_
            refine V_iload_n 326 0 rfl rfl dX11_readStep_325 rfl ?_
            refine V_iconst 327 (2) rfl dX11_readStep_326 rfl ?_
            refine V_iadd 328 dX11_readStep_327 rfl ?_
            refine V_rw (nI_add (3 * n) 2) ?_
            refine V_aload_n 329 1 rfl _ rfl rfl dX11_readStep_328 rfl ?_
            refine V_getI 332 69 11 34 (nI (3 * n1)) (show lx _ _ _ _ 69 34 = _ from by rw [lx_69 (by decide) (by decide) (by decide), ox_69 (by decide)]; exact s34) flX11_299 rfl rfl rfl (by decide) dX11_readStep_329 rfl ?_
            refine V_iastN 333 86 150 ((3 * n) + 2) (by omega) (by decide) rfl (by decide) dX11_readStep_332 rfl ?_
            rw [lx_up (fun h => absurd h (by decide)), ox_up (fun h => absurd h (by decide))]
            refine V_goto 345 rfl dX11_readStep_333 ?_
            refine V_aload_n 346 1 rfl _ rfl rfl dX11_readStep_345 rfl ?_
            refine V_bipush 348 (59) rfl dX11_readStep_346 rfl ?_
            refine V_callV (K' := 0) (S' := 0) 351 69 11 1 [.int 59] mkX11_sign lkX11_242 (by decide) rfl rfl (by decide) rfl (Nat.le_of_ble_eq_true rfl) (Nat.le_of_ble_eq_true rfl) (Nat.le_of_ble_eq_true rfl) (Nat.le_of_ble_eq_true rfl) rfl rfl dX11_readStep_348 rfl (c_X11_sign (c := 59) hRM (TxM.ox (o := o) (FrV.T (FrV.u FrV.rf) hT1)) (by decide) (by decide) (Nat.succ_le_of_lt c93.1) (fun e => absurd rfl e) (fun _ z348 s348 => ?_) (fun _ e348 => ?_))
            · refine Kq_v (k' := 0) (sl' := 0) rfl rfl ?_
              have e348 : pSig t z 59 (sk t z (p1 + 1)) = .inr (sk t z (sk t z (p1 + 1) + 1)) := sig_ok z348 s348 (by decide) (by decide)
              have lz348 := (pSig_ok e348).2.2.2
              refine V_ret_v rfl (Nat.le_of_ble_eq_true rfl) (fun h => absurd h (by decide)) (Nat.le_of_ble_eq_true rfl) (hk _ _ _ _ _ (pSs_o (e7.trans eA) e348) (by rw [up2_n _ _ _ (by decide)]; exact s34) hR9 (againM_E hE1) (hF1.tr (FrV.u FrV.rf)) (Nat.succ_le_of_lt z348) rfl) dX11_readStep_351
            · refine Kq_v (k' := 0) (sl' := 0) rfl rfl ?_
              have nb348 : ¬ nI (sk t z (p1 + 1)) = -1 := nI_ne (by first | omega | exact Nat.lt_of_le_of_lt (sk_z (t := t) (Nat.succ_le_of_lt c93.1)).2.1 (by omega))
              refine V_ret_v rfl (Nat.le_of_ble_eq_true rfl) (fun h => absurd h (by decide)) (Nat.le_of_ble_eq_true rfl) (hb 1 _ _ _ (pSs_2 (e7.trans eA) e348) (by decide) (by decide) (by first | omega | exact (sk_z (t := t) (Nat.succ_le_of_lt c93.1)).2.1) (hF1.tr (FrV.u FrV.rf)) (sk_z (Nat.succ_le_of_lt c93.1)).2.1) dX11_readStep_351
          · rw [if_neg c93] at eq
            have hgo : ∀ (hne : True), V G mX11_readStep (m + 20) 0 0 0 0 291 [(3, .int (nI (3 * n))), (0, rf G 69)] [] 103 (lx (ox I1 (o + 1)) p1 (-1) k) R J Q := by
              intro _
              refine V_aload_n 292 1 rfl _ rfl rfl dX11_readStep_291 rfl ?_
              refine V_callV (K' := 0) (S' := 0) 295 69 11 0 [] mkX11_readStep lkX11_320 (by decide) rfl rfl (by decide) rfl (Nat.le_of_ble_eq_true rfl) (Nat.le_of_ble_eq_true rfl) (Nat.le_of_ble_eq_true rfl) (Nat.le_of_ble_eq_true rfl) rfl rfl dX11_readStep_292 rfl (hU _ _ _ _ _ p1 n1 S1 _ (by omega) hRM hT1 h150 (hF1.C hK) hW r2 (by rw [esk1]; omega) h341 (fun n2 S2 p2 I2 a2 e2 h342 hR2 hE2 hF2 ha2 es2 => ?_) (fun k2 q2 I2 a2 e2 hk2 hk3 hq2 hF2 ha2 => ?_))
              · refine Kq_v (k' := 0) (sl' := 0) rfl rfl ?_
                rw [esk1] at e2
                have hT2 := hF2.T hT1
                refine V_goto 275 rfl dX11_readStep_295 ?_
                by_cases cz : z ≤ p1
                · exact absurd e2 (by rw [hz0 cz n1 S1]; intro q; cases q)
                rw [if_neg cz] at eq
                obtain ⟨x1, x2, x3, x4, x5, x6, x7⟩ := hOk n1 S1 p1 n2 S2 p2 r2 e2
                exact V_lv [0, 1] rfl (ih n2 S2 a2 I2 (by rw [es2]; omega) ha2 (by omega) (by rw [es2]; omega) h342 (hR1.join hR2 hE2 x5) (fun j hj => (x5 j (by omega)).trans (hS1 j hj)) (hE1.tr hE2 hn1) (hF1.tr hF2) (eq.trans ((bd_ok e2).trans (by rw [es2]))))
              · refine Kq_v (k' := 0) (sl' := 0) rfl rfl ?_
                rw [esk1] at e2
                have nb2 : ¬ nI q2 = -1 := nI_ne (by omega)
                refine V_goto 275 rfl dX11_readStep_295 ?_
                have eB : pAg (pBo u t z (z + 1)) t z n S p = .inl (k2, q2) := by
                  refine (bd_ok en0).trans ((bd_ok eq1).trans (bd_no (eX.symm.trans ?_)))
                  by_cases cz : z ≤ p1
                  · rw [if_pos cz] at eq
                    rw [hz0 cz n1 S1] at e2
                    rw [eq]; cases e2; rfl
                  · rw [if_neg cz] at eq; exact eq.trans (bd_no e2)
                refine V_aload_n 276 1 rfl _ rfl rfl dX11_readStep_275 rfl ?_
                refine V_callV (K' := 0) (S' := 0) 279 69 11 0 [] mkX11_fine lkX11_152 (by decide) rfl rfl (by decide) rfl (Nat.le_of_ble_eq_true rfl) (Nat.le_of_ble_eq_true rfl) (Nat.le_of_ble_eq_true rfl) (Nat.le_of_ble_eq_true rfl) rfl rfl dX11_readStep_276 rfl (c_X11_fine (fun e => absurd e nb2) (fun _ => ?_))
                refine Kq_i (k' := 0) (sl' := 0) rfl rfl ?_
                refine V_if_eq 298 282 rfl dX11_readStep_279 rfl (fun c279 => ?_) (fun c279 => absurd c279 (by decide))
                exact V_lv [0, 1] rfl (hbad a2 I2 k2 q2 hk2 hk3 hq2 ha2 (hF1.tr hF2) eB)
            by_cases cz : p1 < z
            · refine V_aload_n 276 1 rfl _ rfl rfl dX11_readStep_275 rfl ?_
              refine V_callV (K' := 0) (S' := 0) 279 69 11 0 [] mkX11_fine lkX11_152 (by decide) rfl rfl (by decide) rfl (Nat.le_of_ble_eq_true rfl) (Nat.le_of_ble_eq_true rfl) (Nat.le_of_ble_eq_true rfl) (Nat.le_of_ble_eq_true rfl) rfl rfl dX11_readStep_276 rfl (c_X11_fine (fun _ => ?_) (fun e => absurd rfl e))
              refine Kq_i (k' := 0) (sl' := 0) rfl rfl ?_
              refine V_if_eq 298 282 rfl dX11_readStep_279 rfl (fun c279 => absurd c279 (by decide)) (fun c279 => ?_)
              refine V_aload_n 283 1 rfl _ rfl rfl dX11_readStep_282 rfl ?_
              refine V_callV (K' := 0) (S' := 0) 286 69 11 0 [] mkX11_here lkX11_135 (by decide) rfl rfl (by decide) rfl (Nat.le_of_ble_eq_true rfl) (Nat.le_of_ble_eq_true rfl) (Nat.le_of_ble_eq_true rfl) (Nat.le_of_ble_eq_true rfl) rfl rfl dX11_readStep_283 rfl (c_X11_here hRM (TxM.ox (o := o + 1) hT1) ha1 ?_)
              rw [← ep1]
              rw [if_pos cz]
              refine Kq_i (k' := 0) (sl' := 0) rfl rfl ?_
              refine V_bipush 288 (93) rfl dX11_readStep_286 rfl ?_
              refine V_icmp_eq 298 291 rfl dX11_readStep_288 rfl (fun c288 => absurd ((nI_eq (b := 93) (by have := hT.2.2.2 p1; omega) (by decide)).mp c288) (fun e => c93 ⟨cz, e⟩)) (fun c288 => ?_)
              exact V_lv [0, 1] rfl (hgo trivial)
            · refine V_aload_n 276 1 rfl _ rfl rfl dX11_readStep_275 rfl ?_
              refine V_callV (K' := 0) (S' := 0) 279 69 11 0 [] mkX11_fine lkX11_152 (by decide) rfl rfl (by decide) rfl (Nat.le_of_ble_eq_true rfl) (Nat.le_of_ble_eq_true rfl) (Nat.le_of_ble_eq_true rfl) (Nat.le_of_ble_eq_true rfl) rfl rfl dX11_readStep_276 rfl (c_X11_fine (fun _ => ?_) (fun e => absurd rfl e))
              refine Kq_i (k' := 0) (sl' := 0) rfl rfl ?_
              refine V_if_eq 298 282 rfl dX11_readStep_279 rfl (fun c279 => absurd c279 (by decide)) (fun c279 => ?_)
              refine V_aload_n 283 1 rfl _ rfl rfl dX11_readStep_282 rfl ?_
              refine V_callV (K' := 0) (S' := 0) 286 69 11 0 [] mkX11_here lkX11_135 (by decide) rfl rfl (by decide) rfl (Nat.le_of_ble_eq_true rfl) (Nat.le_of_ble_eq_true rfl) (Nat.le_of_ble_eq_true rfl) (Nat.le_of_ble_eq_true rfl) rfl rfl dX11_readStep_283 rfl (c_X11_here hRM (TxM.ox (o := o + 1) hT1) ha1 ?_)
              rw [← ep1]
              rw [if_neg cz]
              refine Kq_i (k' := 0) (sl' := 0) rfl rfl ?_
              refine V_bipush 288 (93) rfl dX11_readStep_286 rfl ?_
              refine V_icmp_eq 298 291 rfl dX11_readStep_288 rfl (fun c288 => absurd c288 (by decide)) (fun c288 => ?_)
              exact V_lv [0, 1] rfl (hgo trivial)
      refine V_aload_n 1 0 rfl _ rfl rfl dX11_readStep_0 rfl ?_
      refine V_callV (K' := 0) (S' := 0) 4 69 11 0 [] mkX11_word lkX11_227 (by decide) rfl rfl (by decide) rfl (Nat.le_of_ble_eq_true rfl) (Nat.le_of_ble_eq_true rfl) (Nat.le_of_ble_eq_true rfl) (Nat.le_of_ble_eq_true rfl) rfl rfl dX11_readStep_1 rfl (c_X11_word hRM (TxM.ox (o := o) hT) ha ?_)
      rw [← ep]
      refine Kq_i (k' := 0) (sl' := 0) rfl rfl ?_
      refine V_istore_n 5 [(1, .int (nI (wcF t z p))), (0, rf G 69)] (by decide) rfl rfl dX11_readStep_4 rfl ?_
      refine V_iload_n 6 0 rfl rfl dX11_readStep_5 rfl ?_
      refine V_ldcSw 9 37 rfl rfl dX11_readStep_6 rfl ?_
      refine V_callS (K' := 0) (S' := 0) 12 1 [sr G 37] mkX11_of lkX11_204 rfl (Nat.le_of_ble_eq_true rfl) (Nat.le_of_ble_eq_true rfl) (Nat.le_of_ble_eq_true rfl) (Nat.le_of_ble_eq_true rfl) rfl rfl dX11_readStep_9 rfl (c_X11_of (wdo 37 (by decide) (by decide) (by decide)) ?_)
      refine Kq_i (k' := 0) (sl' := 0) rfl rfl ?_
      refine V_icmp_ne 30 15 rfl dX11_readStep_12 rfl (fun c12 => ?_) (fun c12 => absurd c12 (by rw [ekw]; decide +kernel))
      refine V_iload_n 31 0 rfl rfl dX11_readStep_30 rfl ?_
      refine V_ldcSw 34 38 rfl rfl dX11_readStep_31 rfl ?_
      refine V_callS (K' := 0) (S' := 0) 37 1 [sr G 38] mkX11_of lkX11_204 rfl (Nat.le_of_ble_eq_true rfl) (Nat.le_of_ble_eq_true rfl) (Nat.le_of_ble_eq_true rfl) (Nat.le_of_ble_eq_true rfl) rfl rfl dX11_readStep_34 rfl (c_X11_of (wdo 38 (by decide) (by decide) (by decide)) ?_)
      refine Kq_i (k' := 0) (sl' := 0) rfl rfl ?_
      refine V_icmp_eq 50 40 rfl dX11_readStep_37 rfl (fun c37 => absurd c37 (by rw [ekw]; decide +kernel)) (fun c37 => ?_)
      refine V_iload_n 41 0 rfl rfl dX11_readStep_40 rfl ?_
      refine V_ldcSw 44 39 rfl rfl dX11_readStep_41 rfl ?_
      refine V_callS (K' := 0) (S' := 0) 47 1 [sr G 39] mkX11_of lkX11_204 rfl (Nat.le_of_ble_eq_true rfl) (Nat.le_of_ble_eq_true rfl) (Nat.le_of_ble_eq_true rfl) (Nat.le_of_ble_eq_true rfl) rfl rfl dX11_readStep_44 rfl (c_X11_of (wdo 39 (by decide) (by decide) (by decide)) ?_)
      refine Kq_i (k' := 0) (sl' := 0) rfl rfl ?_
      refine V_icmp_ne 117 50 rfl dX11_readStep_47 rfl (fun c47 => ?_) (fun c47 => absurd c47 (by rw [ekw]; decide +kernel))
      refine V_iload_n 118 0 rfl rfl dX11_readStep_117 rfl ?_
      refine V_ldcSw 121 40 rfl rfl dX11_readStep_118 rfl ?_
      refine V_callS (K' := 0) (S' := 0) 124 1 [sr G 40] mkX11_of lkX11_204 rfl (Nat.le_of_ble_eq_true rfl) (Nat.le_of_ble_eq_true rfl) (Nat.le_of_ble_eq_true rfl) (Nat.le_of_ble_eq_true rfl) rfl rfl dX11_readStep_121 rfl (c_X11_of (wdo 40 (by decide) (by decide) (by decide)) ?_)
      refine Kq_i (k' := 0) (sl' := 0) rfl rfl ?_
      refine V_icmp_eq 147 127 rfl dX11_readStep_124 rfl (fun c124 => absurd c124 (by rw [ekw]; decide +kernel)) (fun c124 => ?_)
      refine V_iload_n 128 0 rfl rfl dX11_readStep_127 rfl ?_
      refine V_ldcSw 131 41 rfl rfl dX11_readStep_128 rfl ?_
      refine V_callS (K' := 0) (S' := 0) 134 1 [sr G 41] mkX11_of lkX11_204 rfl (Nat.le_of_ble_eq_true rfl) (Nat.le_of_ble_eq_true rfl) (Nat.le_of_ble_eq_true rfl) (Nat.le_of_ble_eq_true rfl) rfl rfl dX11_readStep_131 rfl (c_X11_of (wdo 41 (by decide) (by decide) (by decide)) ?_)
      refine Kq_i (k' := 0) (sl' := 0) rfl rfl ?_
      refine V_icmp_eq 147 137 rfl dX11_readStep_134 rfl (fun c134 => absurd c134 (by rw [ekw]; decide +kernel)) (fun c134 => ?_)
      refine V_iload_n 138 0 rfl rfl dX11_readStep_137 rfl ?_
      refine V_ldcSw 141 42 rfl rfl dX11_readStep_138 rfl ?_
      refine V_callS (K' := 0) (S' := 0) 144 1 [sr G 42] mkX11_of lkX11_204 rfl (Nat.le_of_ble_eq_true rfl) (Nat.le_of_ble_eq_true rfl) (Nat.le_of_ble_eq_true rfl) (Nat.le_of_ble_eq_true rfl) rfl rfl dX11_readStep_141 rfl (c_X11_of (wdo 42 (by decide) (by decide) (by decide)) ?_)
      refine Kq_i (k' := 0) (sl' := 0) rfl rfl ?_
      refine V_icmp_ne 199 147 rfl dX11_readStep_144 rfl (fun c144 => ?_) (fun c144 => absurd c144 (by rw [ekw]; decide +kernel))
      refine V_iload_n 200 0 rfl rfl dX11_readStep_199 rfl ?_
      refine V_ldcSw 203 43 rfl rfl dX11_readStep_200 rfl ?_
      refine V_callS (K' := 0) (S' := 0) 206 1 [sr G 43] mkX11_of lkX11_204 rfl (Nat.le_of_ble_eq_true rfl) (Nat.le_of_ble_eq_true rfl) (Nat.le_of_ble_eq_true rfl) (Nat.le_of_ble_eq_true rfl) rfl rfl dX11_readStep_203 rfl (c_X11_of (wdo 43 (by decide) (by decide) (by decide)) ?_)
      refine Kq_i (k' := 0) (sl' := 0) rfl rfl ?_
      refine V_icmp_ne 233 209 rfl dX11_readStep_206 rfl (fun c206 => ?_) (fun c206 => absurd c206 (by rw [ekw]; decide +kernel))
      refine V_iload_n 234 0 rfl rfl dX11_readStep_233 rfl ?_
      refine V_ldcSw 237 44 rfl rfl dX11_readStep_234 rfl ?_
      refine V_callS (K' := 0) (S' := 0) 240 1 [sr G 44] mkX11_of lkX11_204 rfl (Nat.le_of_ble_eq_true rfl) (Nat.le_of_ble_eq_true rfl) (Nat.le_of_ble_eq_true rfl) (Nat.le_of_ble_eq_true rfl) rfl rfl dX11_readStep_237 rfl (c_X11_of (wdo 44 (by decide) (by decide) (by decide)) ?_)
      refine Kq_i (k' := 0) (sl' := 0) rfl rfl ?_
      refine V_icmp_ne 336 243 rfl dX11_readStep_240 rfl (fun c240 => absurd (show nI (wcF t z p) = nI (ocF 44) from by rw [ekw, o44]) c240) (fun c240 => ?_)
      refine V_aload_n 244 1 rfl _ rfl rfl dX11_readStep_243 rfl ?_
      refine V_iconst 245 (5) rfl dX11_readStep_244 rfl ?_
      refine V_callV (K' := 0) (S' := 0) 248 69 11 1 [.int 5] mkX11_opensOne lkX11_261 (by decide) rfl rfl (by decide) rfl (Nat.le_of_ble_eq_true rfl) (Nat.le_of_ble_eq_true rfl) (Nat.le_of_ble_eq_true rfl) (Nat.le_of_ble_eq_true rfl) rfl rfl dX11_readStep_245 rfl (c_X11_opensOne (y := 5) (by omega) ?_)
      rw [hy]
      refine Kq_v (k' := 0) (sl' := 0) rfl rfl ?_
      refine V_aload_n 249 1 rfl _ rfl rfl dX11_readStep_248 rfl ?_
      refine V_iconst 250 (0) rfl dX11_readStep_249 rfl ?_
      refine V_bipush 252 (30) rfl dX11_readStep_250 rfl ?_
      refine V_callV (K' := 0) (S' := 0) 255 69 11 2 [.int 0, .int 30] mkX11_readNumber lkX11_212 (by decide) rfl rfl (by decide) rfl (Nat.le_of_ble_eq_true rfl) (Nat.le_of_ble_eq_true rfl) (Nat.le_of_ble_eq_true rfl) (Nat.le_of_ble_eq_true rfl) rfl rfl dX11_readStep_252 rfl (c_X11_readNumber (lo := 0) (cnt := 31) hRM (TxM.ox (o := o + 1) hT) (by decide) (by omega) (hh_lit 30 (by decide)) he (fun e => absurd rfl e) (fun v252 _ e252 => ?_) (fun k252 a252 ha252 _ e252 => ?_))
      · refine Kq_i (k' := 0) (sl' := 0) rfl rfl ?_
        obtain ⟨-, -, lo252, hi252, -, -, lt252, hz252⟩ := pNum_ok e252
        refine V_istore_n 256 [(2, .int (nI v252)), (1, .int (nI (wcF t z p))), (0, rf G 69)] (by decide) rfl rfl dX11_readStep_255 rfl ?_
        refine V_aload_n 257 2 rfl _ rfl rfl dX11_readStep_256 rfl ?_
        refine V_bipush 259 (91) rfl dX11_readStep_257 rfl ?_
        refine V_callV (K' := 0) (S' := 0) 262 69 11 1 [.int 91] mkX11_sign lkX11_242 (by decide) rfl rfl (by decide) rfl (Nat.le_of_ble_eq_true rfl) (Nat.le_of_ble_eq_true rfl) (Nat.le_of_ble_eq_true rfl) (Nat.le_of_ble_eq_true rfl) rfl rfl dX11_readStep_259 rfl (c_X11_sign (c := 91) hRM (TxM.ox (o := o + 1) hT) (by decide) (by decide) (enF_z (sk_z he).2.1).2.1 (fun e => absurd rfl e) (fun _ z259 s259 => ?_) (fun _ e259 => ?_))
        · refine Kq_v (k' := 0) (sl' := 0) rfl rfl ?_
          have e259 : pSig t z 91 (sk t z (enF t z (sk t z (enF t z p)))) = .inr (sk t z (sk t z (enF t z (sk t z (enF t z p))) + 1)) := sig_ok z259 s259 (by decide) (by decide)
          have lz259 := (pSig_ok e259).2.2.2
          refine V_aload_n 263 2 rfl _ rfl rfl dX11_readStep_262 rfl ?_
          refine V_getI 266 69 11 34 (nI (3 * n)) (show lx _ _ _ _ 69 34 = _ from by rw [lx_69 (by decide) (by decide) (by decide), ox_69 (by decide)]; exact h34) flX11_299 rfl rfl rfl (by decide) dX11_readStep_263 rfl ?_
          refine V_istore_n 267 [(3, .int (nI (3 * n))), (2, .int (nI v252)), (1, .int (nI (wcF t z p))), (0, rf G 69)] (by decide) rfl rfl dX11_readStep_266 rfl ?_
          refine V_aload_n 268 3 rfl _ rfl rfl dX11_readStep_267 rfl ?_
          refine V_bipush 270 (7) rfl dX11_readStep_268 rfl ?_
          refine V_iload_n 271 1 rfl rfl dX11_readStep_270 rfl ?_
          refine V_iconst 272 (0) rfl dX11_readStep_271 rfl ?_
          refine V_callV (K' := 0) (S' := 0) 275 69 11 3 [.int 7, .int (nI v252), .int 0] mkX11_tellsStep lkX11_302 (by decide) rfl rfl (by decide) rfl (Nat.le_of_ble_eq_true rfl) (Nat.le_of_ble_eq_true rfl) (Nat.le_of_ble_eq_true rfl) (Nat.le_of_ble_eq_true rfl) rfl rfl dX11_readStep_272 rfl (c_X11_tellsStep (x := nI 7) (y := nI v252) (w := nI 0) hRM h34 (by omega) ?_)
          refine Kq_v (k' := 0) (sl' := 0) rfl rfl ?_
          have lz := (pSig_ok e259).2.2.2
          exact V_lv [0, 3] rfl (L v252 _ e252 _ e259 (by omega) (by omega) (z + 1) (n + 1) _ _ _ (by omega) (Nat.succ_le_of_lt z259) (Nat.le_refl _) (by omega) ts_34 (fun i q1 q2 => absurd q2 (by omega)) (fun _ _ => rfl) EM.rf ts_fr rfl)
        · refine Kq_v (k' := 0) (sl' := 0) rfl rfl ?_
          have nb259 : ¬ nI (sk t z (enF t z (sk t z (enF t z p)))) = -1 := nI_ne (by first | omega | exact Nat.lt_of_le_of_lt (sk_z (t := t) (enF_z (sk_z he).2.1).2.1).2.1 (by omega))
          refine V_aload_n 263 2 rfl _ rfl rfl dX11_readStep_262 rfl ?_
          refine V_getI 266 69 11 34 (nI (3 * n)) (show lx _ _ _ _ 69 34 = _ from by rw [lx_69 (by decide) (by decide) (by decide), ox_69 (by decide)]; exact h34) flX11_299 rfl rfl rfl (by decide) dX11_readStep_263 rfl ?_
          refine V_istore_n 267 [(3, .int (nI (3 * n))), (2, .int (nI v252)), (1, .int (nI (wcF t z p))), (0, rf G 69)] (by decide) rfl rfl dX11_readStep_266 rfl ?_
          refine V_aload_n 268 3 rfl _ rfl rfl dX11_readStep_267 rfl ?_
          refine V_bipush 270 (7) rfl dX11_readStep_268 rfl ?_
          refine V_iload_n 271 1 rfl rfl dX11_readStep_270 rfl ?_
          refine V_iconst 272 (0) rfl dX11_readStep_271 rfl ?_
          refine V_callV (K' := 0) (S' := 0) 275 69 11 3 [.int 7, .int (nI v252), .int 0] mkX11_tellsStep lkX11_302 (by decide) rfl rfl (by decide) rfl (Nat.le_of_ble_eq_true rfl) (Nat.le_of_ble_eq_true rfl) (Nat.le_of_ble_eq_true rfl) (Nat.le_of_ble_eq_true rfl) rfl rfl dX11_readStep_272 rfl (c_X11_tellsStepF nb259 ?_)
          refine Kq_v (k' := 0) (sl' := 0) rfl rfl ?_
          refine V_aload_n 276 3 rfl _ rfl rfl dX11_readStep_275 rfl ?_
          refine V_callV (K' := 0) (S' := 0) 279 69 11 0 [] mkX11_fine lkX11_152 (by decide) rfl rfl (by decide) rfl (Nat.le_of_ble_eq_true rfl) (Nat.le_of_ble_eq_true rfl) (Nat.le_of_ble_eq_true rfl) (Nat.le_of_ble_eq_true rfl) rfl rfl dX11_readStep_276 rfl (c_X11_fine (fun e => absurd e nb259) (fun _ => ?_))
          refine Kq_i (k' := 0) (sl' := 0) rfl rfl ?_
          refine V_if_eq 298 282 rfl dX11_readStep_279 rfl (fun c279 => ?_) (fun c279 => absurd c279 (by decide))
          exact V_lv [0, 3] rfl (hbad _ I _ _ (by decide) (by decide) (by omega) (sk_z (enF_z (sk_z he).2.1).2.1).2.1 FrV.rf ((bd_ok e252).trans (bd_no e259)))
      · refine Kq_i (k' := 0) (sl' := 0) rfl rfl ?_
        have kk252 := pNum_k e252
        have nb252 : ¬ nI (sk t z (enF t z p)) = -1 := nI_ne (by first | omega | exact Nat.lt_of_le_of_lt (sk_z (t := t) he).2.1 (by omega))
        refine V_istore_n 256 [(2, .int 0), (1, .int (nI (wcF t z p))), (0, rf G 69)] (by decide) rfl rfl dX11_readStep_255 rfl ?_
        refine V_aload_n 257 2 rfl _ rfl rfl dX11_readStep_256 rfl ?_
        refine V_bipush 259 (91) rfl dX11_readStep_257 rfl ?_
        refine V_callV (K' := 0) (S' := 0) 262 69 11 1 [.int 91] mkX11_sign lkX11_242 (by decide) rfl rfl (by decide) rfl (Nat.le_of_ble_eq_true rfl) (Nat.le_of_ble_eq_true rfl) (Nat.le_of_ble_eq_true rfl) (Nat.le_of_ble_eq_true rfl) rfl rfl dX11_readStep_259 rfl (c_X11_sign (c := 91) hRM (TxM.ox (o := o + 1) hT) (by decide) (by decide) ha252 (fun _ => ?_) (fun e _ _ => absurd e nb252) (fun e _ => absurd e nb252))
        refine Kq_v (k' := 0) (sl' := 0) rfl rfl ?_
        refine V_aload_n 263 2 rfl _ rfl rfl dX11_readStep_262 rfl ?_
        refine V_getI 266 69 11 34 (nI (3 * n)) (show lx _ _ _ _ 69 34 = _ from by rw [lx_69 (by decide) (by decide) (by decide), ox_69 (by decide)]; exact h34) flX11_299 rfl rfl rfl (by decide) dX11_readStep_263 rfl ?_
        refine V_istore_n 267 [(3, .int (nI (3 * n))), (2, .int 0), (1, .int (nI (wcF t z p))), (0, rf G 69)] (by decide) rfl rfl dX11_readStep_266 rfl ?_
        refine V_aload_n 268 3 rfl _ rfl rfl dX11_readStep_267 rfl ?_
        refine V_bipush 270 (7) rfl dX11_readStep_268 rfl ?_
        refine V_iload_n 271 1 rfl rfl dX11_readStep_270 rfl ?_
        refine V_iconst 272 (0) rfl dX11_readStep_271 rfl ?_
        refine V_callV (K' := 0) (S' := 0) 275 69 11 3 [.int 7, .int 0, .int 0] mkX11_tellsStep lkX11_302 (by decide) rfl rfl (by decide) rfl (Nat.le_of_ble_eq_true rfl) (Nat.le_of_ble_eq_true rfl) (Nat.le_of_ble_eq_true rfl) (Nat.le_of_ble_eq_true rfl) rfl rfl dX11_readStep_272 rfl (c_X11_tellsStepF nb252 ?_)
        refine Kq_v (k' := 0) (sl' := 0) rfl rfl ?_
        refine V_aload_n 276 3 rfl _ rfl rfl dX11_readStep_275 rfl ?_
        refine V_callV (K' := 0) (S' := 0) 279 69 11 0 [] mkX11_fine lkX11_152 (by decide) rfl rfl (by decide) rfl (Nat.le_of_ble_eq_true rfl) (Nat.le_of_ble_eq_true rfl) (Nat.le_of_ble_eq_true rfl) (Nat.le_of_ble_eq_true rfl) rfl rfl dX11_readStep_276 rfl (c_X11_fine (fun e => absurd e nb252) (fun _ => ?_))
        refine Kq_i (k' := 0) (sl' := 0) rfl rfl ?_
        refine V_if_eq 298 282 rfl dX11_readStep_279 rfl (fun c279 => ?_) (fun c279 => absurd c279 (by decide))
        exact V_lv [0, 3] rfl (hbad _ I _ _ kk252.1 kk252.2 (by omega) ha252 FrV.rf (bd_no e252))
theorem c_X11_step {G : Gx} {t : Nat → Nat} {z : Nat} {K : CO} : ∀ lev, lev ≤ 6 → WMt G (20 * lev + 20) (6 - lev) t z K (pSs (pLv t z K lev) t z) := by
  intro lev
  induction lev with
  | zero => intro _; exact c_X11_readStep0 (D0 := 0)
  | succ lev ih =>
    intro h
    exact c_X11_readStepS (D0 := 20 * lev + 20) (by omega) (fun {p1} hz n S => pLv_z hz lev n S) (pSs_ok (pLv_ok lev)) (ih (by omega))
