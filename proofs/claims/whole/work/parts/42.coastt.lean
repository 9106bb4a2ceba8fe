/-! ===== a COAST's text ===== -/
theorem bd_ok {α β : Type} {x : FT ⊕ α} {a : α} {f : α → FT ⊕ β} (h : x = .inr a) : bd x f = f a := by rw [h]; rfl
theorem bd_no {α β : Type} {x : FT ⊕ α} {e : FT} {f : α → FT ⊕ β} (h : x = .inl e) : bd x f = .inl e := by rw [h]; rfl
def kHat (K : CO) (a s : Nat) : CO := (cH K + 1, cG K, cM K, upd (upd (cHat K) (2 * cH K) (nI a)) (2 * cH K + 1) (nI s), cGr K, cBt K, cHr K)
def kGr (K : CO) (a s : Nat) : CO := (cH K, cG K + 1, cM K, cHat K, upd (upd (cGr K) (2 * cG K) (nI a)) (2 * cG K + 1) (nI s), cBt K, cHr K)
def kMan (K : CO) (b : Nat) : CO := (cH K, cG K, cM K + 1, cHat K, cGr K, upd (cBt K) (cM K) (nI b), fun m => if m = cM K then none else cHr K m)
def kHeir (K : CO) (m k : Nat) : CO := (cH K, cG K, cM K, cHat K, cGr K, cBt K, fun j => if j = m then some k else cHr K j)
def pHat (t : Nat → Nat) (z fl : Nat) (K : CO) (p : Nat) : FT ⊕ (CO × Nat) := if fl = 1 ∨ 8 ≤ cH K then .inl (3, p) else bd (pNum t z 1 13 (nx t z p)) (fun x => bd (pNum t z 0 8 x.2) (fun y => .inr (kHat K x.1 y.1, y.2)))
def pGround (t : Nat → Nat) (z fl : Nat) (K : CO) (p : Nat) : FT ⊕ (CO × Nat) := if fl = 1 ∨ 6 ≤ cG K then .inl (3, p) else bd (pNum t z 0 1000 (nx t z p)) (fun x => bd (pNum t z 0 8 x.2) (fun y => .inr (kGr K x.1 y.1, y.2)))
def pMan (t : Nat → Nat) (z fl : Nat) (K : CO) (p : Nat) : FT ⊕ (CO × Nat) := if fl = 1 ∨ 6 ≤ cM K then .inl (3, p) else bd (pNum t z 1 100 (nx t z p)) (fun x => .inr (kMan K x.1, x.2))
def pHeir (t : Nat → Nat) (z fl : Nat) (K : CO) (p : Nat) : FT ⊕ (CO × Nat) := if fl = 1 then .inl (3, p) else bd (pNum t z 0 (cM K) (nx t z p)) (fun x => bd (pNum t z 0 (cM K) x.2) (fun y => .inr (kHeir K x.1 y.1, y.2)))
def pCl (t : Nat → Nat) (z fl : Nat) (K : CO) (p : Nat) : FT ⊕ (CO × Nat) := if wcF t z p = ocF 1 then pHat t z fl K p else if wcF t z p = ocF 2 then pGround t z fl K p else if wcF t z p = ocF 3 then pMan t z fl K p else if wcF t z p = ocF 4 then pHeir t z fl K p else .inl (1, p)
def pCs (t : Nat → Nat) (z fl : Nat) (K : CO) (p : Nat) : FT ⊕ (CO × Nat) := bd (pCl t z fl K p) (fun x => bd (pSig t z 59 x.2) (fun q => .inr (x.1, q)))
theorem pCs_ok {t : Nat → Nat} {z fl : Nat} {K K' : CO} {p p1 q : Nat} (e1 : pCl t z fl K p = .inr (K', p1)) (e2 : pSig t z 59 p1 = .inr q) : pCs t z fl K p = .inr (K', q) := by
  unfold pCs; rw [bd_ok e1]; exact bd_ok e2
theorem pCs_n2 {t : Nat → Nat} {z fl : Nat} {K K' : CO} {p p1 : Nat} {e : FT} (e1 : pCl t z fl K p = .inr (K', p1)) (e2 : pSig t z 59 p1 = .inl e) : pCs t z fl K p = .inl e := by
  unfold pCs; rw [bd_ok e1]; exact bd_no e2
theorem pCs_n1 {t : Nat → Nat} {z fl : Nat} {K : CO} {p : Nat} {e : FT} (e1 : pCl t z fl K p = .inl e) : pCs t z fl K p = .inl e := bd_no e1
def pCo (t : Nat → Nat) (z : Nat) : Nat → Nat → CO → Nat → FT ⊕ CO
  | 0, _, _, _ => .inl (1, 0)
  | f + 1, n, K, p => if z ≤ p then .inr K else bd (pCs t z (if n < 60 then 0 else 1) K p) (fun x => pCo t z f (n + 1) x.1 x.2)
def K0 : CO := (0, 0, 0, fun _ => 0, fun _ => 0, fun _ => 0, fun _ => none)
def coF (t : Nat → Nat) (z : Nat) : FT ⊕ CO := pCo t z 61 0 K0 (sk t z 0)
theorem fl1 {fl : Nat} (h : fl ≤ 1) (h2 : ¬ nI fl = 0) : fl = 1 := by
  rcases (show fl = 0 ∨ fl = 1 by omega) with e | e
  · rw [e] at h2; exact absurd rfl h2
  · exact e
theorem fl0 {fl : Nat} (h : fl ≤ 1) (h2 : nI fl = 0) : ¬ fl = 1 := by
  intro e; rw [e] at h2; exact absurd h2 (by decide)
theorem hh_lit (n : Nat) (hn : n < 2 ^ 31 - 1) : ∀ v, v ≤ 1000000 → (nI v ≤ nI n ↔ v < n + 1) := fun v hv => by rw [nI_leI (by omega) (by omega)]; omega
theorem hh_m1 (n : Nat) (hn : n < 1000) : ∀ v, v ≤ 1000000 → (nI v ≤ nI n - 1 ↔ v < n) := fun v hv => by
  by_cases c : n = 0
  · subst c
    rw [show nI 0 - 1 = -1 from by decide]
    exact ⟨fun h => absurd (Int32.le_trans (nI_pos' (show v < 2 ^ 31 by omega)) h) (by decide), fun h => absurd h (by omega)⟩
  · rw [show (1 : Int32) = nI 1 from rfl, pk_sub (by omega), nI_leI (by omega) (by omega)]; omega
theorem kd_ne {k : Nat} (h : 0 < k) (h2 : k ≤ 3) : ¬ nI k = 0 := nI_ne0 h (by omega)
theorem pNum_k {t : Nat → Nat} {z lo cnt p k q : Nat} (h : pNum t z lo cnt p = .inl (k, q)) : 0 < k ∧ k ≤ 3 := by
  rcases (pNum_no h).2 with e | e <;> omega
/-- only the COAST c differs -/
def FrX (I I' : FI) (c : Nat) : Prop := ∀ a, (a < c ∨ c + 6 < a) → I' a = I a
theorem FrX.rf {I : FI} {c : Nat} : FrX I I c := fun _ _ => rfl
theorem FrX.tr {I I1 I2 : FI} {c : Nat} (h : FrX I I1 c) (h2 : FrX I1 I2 c) : FrX I I2 c := fun a ha => (h2 a ha).trans (h a ha)
theorem FrX.T {I I' : FI} {c : Nat} {t : Nat → Nat} {z : Nat} (h : FrX I I' c) (hc : c = 4 ∨ c = 51) (hT : TxC I t z) : TxC I' t z := hT.fr (h 1 (by omega)) (h 2 (by omega))
theorem CoastC_hat {I : FI} {c : Nat} {K : CO} {a s : Nat} (h : CoastC I c K) : CoastC (up2 (up2 (up2 I (c + 1) (cH K) (nI a)) (c + 2) (cH K) (nI s)) c 6 (nI (cH K + 1))) c (kHat K a s) := by
  obtain ⟨h1, h2, h3, h4, h5, h6, h7, h8, h9⟩ := h
  have e0 : ∀ j, j ≠ c → j ≠ c + 1 → j ≠ c + 2 → up2 (up2 (up2 I (c + 1) (cH K) (nI a)) (c + 2) (cH K) (nI s)) c 6 (nI (cH K + 1)) j = I j := fun j q1 q2 q3 => by rw [up2_n _ _ _ q1, up2_n _ _ _ q3, up2_n _ _ _ q2]
  have ec : ∀ j, j ≠ 6 → up2 (up2 (up2 I (c + 1) (cH K) (nI a)) (c + 2) (cH K) (nI s)) c 6 (nI (cH K + 1)) c j = I c j := fun j q => by rw [up2_s, upd_n q, up2_n _ _ _ (by omega), up2_n _ _ _ (by omega)]
  refine ⟨by rw [up2_s]; exact upd_s, by rw [ec 7 (by decide)]; exact h2, by rw [ec 8 (by decide)]; exact h3, fun h hh => ?_, fun h hh => ?_, fun g hg => by rw [e0 (c + 3) (by omega) (by omega) (by omega)]; exact h6 g hg, fun g hg => by rw [e0 (c + 4) (by omega) (by omega) (by omega)]; exact h7 g hg, fun m hm => by rw [e0 (c + 5) (by omega) (by omega) (by omega)]; exact h8 m hm, fun m hm => by rw [e0 (c + 6) (by omega) (by omega) (by omega)]; exact h9 m hm⟩
  · rw [up2_n _ _ _ (by omega), up2_n _ _ _ (by omega), up2_s]
    show upd (I (c + 1)) (cH K) (nI a) h = upd (upd (cHat K) (2 * cH K) (nI a)) (2 * cH K + 1) (nI s) (2 * h)
    have hh : h < cH K + 1 := hh
    by_cases q : h = cH K
    · subst q; rw [upd_s, upd_n (by omega), upd_s]
    · rw [upd_n q, upd_n (by omega), upd_n (by omega)]; exact h4 h (by omega)
  · rw [up2_n _ _ _ (by omega), up2_s, up2_n _ _ _ (by omega)]
    show upd (I (c + 2)) (cH K) (nI s) h = upd (upd (cHat K) (2 * cH K) (nI a)) (2 * cH K + 1) (nI s) (2 * h + 1)
    have hh : h < cH K + 1 := hh
    by_cases q : h = cH K
    · subst q; rw [upd_s, upd_s]
    · rw [upd_n q, upd_n (by omega), upd_n (by omega)]; exact h5 h (by omega)
theorem CoastC_gr {I : FI} {c : Nat} {K : CO} {a s : Nat} (h : CoastC I c K) : CoastC (up2 (up2 (up2 I (c + 3) (cG K) (nI a)) (c + 4) (cG K) (nI s)) c 7 (nI (cG K + 1))) c (kGr K a s) := by
  obtain ⟨h1, h2, h3, h4, h5, h6, h7, h8, h9⟩ := h
  have e0 : ∀ j, j ≠ c → j ≠ c + 3 → j ≠ c + 4 → up2 (up2 (up2 I (c + 3) (cG K) (nI a)) (c + 4) (cG K) (nI s)) c 7 (nI (cG K + 1)) j = I j := fun j q1 q2 q3 => by rw [up2_n _ _ _ q1, up2_n _ _ _ q3, up2_n _ _ _ q2]
  have ec : ∀ j, j ≠ 7 → up2 (up2 (up2 I (c + 3) (cG K) (nI a)) (c + 4) (cG K) (nI s)) c 7 (nI (cG K + 1)) c j = I c j := fun j q => by rw [up2_s, upd_n q, up2_n _ _ _ (by omega), up2_n _ _ _ (by omega)]
  refine ⟨by rw [ec 6 (by decide)]; exact h1, by rw [up2_s]; exact upd_s, by rw [ec 8 (by decide)]; exact h3, fun g hg => by rw [e0 (c + 1) (by omega) (by omega) (by omega)]; exact h4 g hg, fun g hg => by rw [e0 (c + 2) (by omega) (by omega) (by omega)]; exact h5 g hg, fun h hh => ?_, fun h hh => ?_, fun m hm => by rw [e0 (c + 5) (by omega) (by omega) (by omega)]; exact h8 m hm, fun m hm => by rw [e0 (c + 6) (by omega) (by omega) (by omega)]; exact h9 m hm⟩
  · rw [up2_n _ _ _ (by omega), up2_n _ _ _ (by omega), up2_s]
    show upd (I (c + 3)) (cG K) (nI a) h = upd (upd (cGr K) (2 * cG K) (nI a)) (2 * cG K + 1) (nI s) (2 * h)
    have hh : h < cG K + 1 := hh
    by_cases q : h = cG K
    · subst q; rw [upd_s, upd_n (by omega), upd_s]
    · rw [upd_n q, upd_n (by omega), upd_n (by omega)]; exact h6 h (by omega)
  · rw [up2_n _ _ _ (by omega), up2_s, up2_n _ _ _ (by omega)]
    show upd (I (c + 4)) (cG K) (nI s) h = upd (upd (cGr K) (2 * cG K) (nI a)) (2 * cG K + 1) (nI s) (2 * h + 1)
    have hh : h < cG K + 1 := hh
    by_cases q : h = cG K
    · subst q; rw [upd_s, upd_s]
    · rw [upd_n q, upd_n (by omega), upd_n (by omega)]; exact h7 h (by omega)
theorem CoastC_man {I : FI} {c : Nat} {K : CO} {b : Nat} (h : CoastC I c K) : CoastC (up2 (up2 (up2 I (c + 5) (cM K) (nI b)) (c + 6) (cM K) (-1)) c 8 (nI (cM K + 1))) c (kMan K b) := by
  obtain ⟨h1, h2, h3, h4, h5, h6, h7, h8, h9⟩ := h
  have e0 : ∀ j, j ≠ c → j ≠ c + 5 → j ≠ c + 6 → up2 (up2 (up2 I (c + 5) (cM K) (nI b)) (c + 6) (cM K) (-1)) c 8 (nI (cM K + 1)) j = I j := fun j q1 q2 q3 => by rw [up2_n _ _ _ q1, up2_n _ _ _ q3, up2_n _ _ _ q2]
  have ec : ∀ j, j ≠ 8 → up2 (up2 (up2 I (c + 5) (cM K) (nI b)) (c + 6) (cM K) (-1)) c 8 (nI (cM K + 1)) c j = I c j := fun j q => by rw [up2_s, upd_n q, up2_n _ _ _ (by omega), up2_n _ _ _ (by omega)]
  refine ⟨by rw [ec 6 (by decide)]; exact h1, by rw [ec 7 (by decide)]; exact h2, by rw [up2_s]; exact upd_s, fun g hg => by rw [e0 (c + 1) (by omega) (by omega) (by omega)]; exact h4 g hg, fun g hg => by rw [e0 (c + 2) (by omega) (by omega) (by omega)]; exact h5 g hg, fun g hg => by rw [e0 (c + 3) (by omega) (by omega) (by omega)]; exact h6 g hg, fun g hg => by rw [e0 (c + 4) (by omega) (by omega) (by omega)]; exact h7 g hg, fun m hm => ?_, fun m hm => ?_⟩
  · rw [up2_n _ _ _ (by omega), up2_n _ _ _ (by omega), up2_s]
    show upd (I (c + 5)) (cM K) (nI b) m = upd (cBt K) (cM K) (nI b) m
    have hm : m < cM K + 1 := hm
    by_cases q : m = cM K
    · subst q; rw [upd_s, upd_s]
    · rw [upd_n q, upd_n q]; exact h8 m (by omega)
  · rw [up2_n _ _ _ (by omega), up2_s, up2_n _ _ _ (by omega)]
    show upd (I (c + 6)) (cM K) (-1) m = oI (if m = cM K then none else cHr K m)
    have hm : m < cM K + 1 := hm
    by_cases q : m = cM K
    · subst q; rw [upd_s, if_pos rfl]; rfl
    · rw [upd_n q, if_neg q]; exact h9 m (by omega)
theorem CoastC_heir {I : FI} {c : Nat} {K : CO} {m k : Nat} (h : CoastC I c K) : CoastC (up2 I (c + 6) m (nI k)) c (kHeir K m k) := by
  obtain ⟨h1, h2, h3, h4, h5, h6, h7, h8, h9⟩ := h
  have e0 : ∀ j, j ≠ c + 6 → up2 I (c + 6) m (nI k) j = I j := fun j q1 => up2_n _ _ _ q1
  refine ⟨by rw [e0 c (by omega)]; exact h1, by rw [e0 c (by omega)]; exact h2, by rw [e0 c (by omega)]; exact h3, fun g hg => by rw [e0 (c + 1) (by omega)]; exact h4 g hg, fun g hg => by rw [e0 (c + 2) (by omega)]; exact h5 g hg, fun g hg => by rw [e0 (c + 3) (by omega)]; exact h6 g hg, fun g hg => by rw [e0 (c + 4) (by omega)]; exact h7 g hg, fun g hg => by rw [e0 (c + 5) (by omega)]; exact h8 g hg, fun j hj => ?_⟩
  rw [up2_s]
  show upd (I (c + 6)) m (nI k) j = oI (if j = m then some k else cHr K j)
  by_cases q : j = m
  · subst q; rw [upd_s, if_pos rfl]; rfl
  · rw [upd_n q, if_neg q]; exact h9 j hj
theorem c_X8_isWd {G : Gx} {d : Nat} {I : FI} {R : FR} {J : FJ} {Q : Po} (hRK : RK R) {t : Nat → Nat} {z : Nat} (hT : TxC I t z) {p : Nat} {fc fp : Int32} {i : Nat} (hp : p ≤ z) (hi : isWd i) (h1 : wcF t z p = ocF i → Q (.inl (some (.int 1))) 103 (tp t z I p fc fp) R J) (h0 : ¬ wcF t z p = ocF i → Q (.inl (some (.int 0))) 103 (tp t z I p fc fp) R J) : Cc G mX8_isWord (d + 1 + 1 + 1 + 1) 0 0 [rf G 1, sr G i] 103 (tp t z I p fc fp) R J Q :=
  c_X8_isWord hRK hT hp hi.1 hi.2.1 (fun e => h1 ((wc_iff hp hi).mpr e)) (fun e => h0 (fun q => e ((wc_iff hp hi).mp q)))
set_option maxHeartbeats 8000000 in
theorem c_X2_readHat {G : Gx} {d : Nat} {I : FI} {R : FR} {J : FJ} {Q : Po} (hRK : RK R) {t : Nat → Nat} {z : Nat} (hT : TxC I t z) {c : Nat} (hc : c = 4 ∨ c = 51) {K : CO} (hC : CoastC I c K) (h8 : cH K ≤ 8) (hg6 : cG K ≤ 6) (h6 : cM K ≤ 6) {p : Nat} {fp : Int32} (hp : p ≤ z) {fl : Nat} (hfl : fl ≤ 1) (hk : ∀ K' p' I', pHat t z fl K p = .inr (K', p') → CoastC I' c K' → FrX I I' c → p' ≤ z → Q (.inl none) 103 (tp t z I' p' 0 fp) R J) (hb : ∀ k q p' I', pHat t z fl K p = .inl (k, q) → 0 < k → k ≤ 3 → FrX I I' c → p' ≤ z → Q (.inl none) 103 (tp t z I' p' (nI k) (nI q)) R J) : Cc G mX2_readHat (d + 1 + 1 + 1 + 1 + 1) 0 0 [rf G c, rf G 1, .int (nI fl)] 103 (tp t z I p 0 fp) R J Q := by
  show V _ _ _ _ _ _ _ _ [(0, rf G c), (1, rf G 1), (2, .int (nI fl))] [] _ _ _ _ _
  refine V_iload_n 1 2 rfl rfl dX2_readHat_0 rfl ?_
  refine V_if_ne 13 4 rfl dX2_readHat_1 rfl (fun c1 => ?_) (fun c1 => ?_)
  · refine V_aload_n 14 1 rfl _ rfl rfl dX2_readHat_13 rfl ?_
    refine V_iconst 15 (3) rfl dX2_readHat_14 rfl ?_
    refine V_callV (K' := 0) (S' := 0) 18 1 8 1 [.int 3] mkX8_fail lkX2_80 (by decide) rfl rfl (by decide) rfl (Nat.le_of_ble_eq_true rfl) (Nat.le_of_ble_eq_true rfl) (Nat.le_of_ble_eq_true rfl) (Nat.le_of_ble_eq_true rfl) rfl rfl dX2_readHat_15 rfl (c_X8_fail (k := 3) hRK hT (fun e => absurd rfl e) (fun _ => ?_))
    refine Kq_v (k' := 0) (sl' := 0) rfl rfl ?_
    refine V_ret_v rfl (Nat.le_of_ble_eq_true rfl) (fun h => absurd h (by decide)) (Nat.le_of_ble_eq_true rfl) (hb 3 _ _ _ (if_pos (by first | exact Or.inl (fl1 hfl c1) | exact Or.inr ((nI_leI (by decide) (by omega)).mp (Int32.not_lt.mp c10)))) (by decide) (by decide) FrX.rf hp) dX2_readHat_18
  · refine V_aload_n 5 0 rfl _ rfl rfl dX2_readHat_4 rfl ?_
    refine V_getI 8 c 2 6 (nI (cH K)) (show tp t z _ _ _ _ c 6 = _ from by rw [tp_n (by omega)]; exact hC.1) flX2_30 rfl (ly_c hc).1 rfl (by omega) dX2_readHat_5 rfl ?_
    refine V_bipush 10 (8) rfl dX2_readHat_8 rfl ?_
    refine V_icmp_lt 19 13 rfl dX2_readHat_10 rfl (fun c10 => ?_) (fun c10 => ?_)
    · have cn := (nI_ltI (b := 8) (by omega) (by decide)).mp c10
      refine V_aload_n 20 1 rfl _ rfl rfl dX2_readHat_19 rfl ?_
      refine V_callV (K' := 0) (S' := 0) 23 1 8 0 [] mkX8_next lkX2_84 (by decide) rfl rfl (by decide) rfl (Nat.le_of_ble_eq_true rfl) (Nat.le_of_ble_eq_true rfl) (Nat.le_of_ble_eq_true rfl) (Nat.le_of_ble_eq_true rfl) rfl rfl dX2_readHat_20 rfl (c_X8_next hRK hT (enF_z hp).2.1 ?_)
      refine Kq_v (k' := 0) (sl' := 0) rfl rfl ?_
      refine V_aload_n 24 0 rfl _ rfl rfl dX2_readHat_23 rfl ?_
      refine V_getR 27 c 2 0 (c + 1) (rk_c0 hRK hc) flX2_9 rfl (ly_c hc).1 rfl (by omega) dX2_readHat_24 rfl ?_
      refine V_aload_n 28 0 rfl _ rfl rfl dX2_readHat_27 rfl ?_
      refine V_getI 31 c 2 6 (nI (cH K)) (show tp t z _ _ _ _ c 6 = _ from by rw [tp_n (by omega)]; exact hC.1) flX2_30 rfl (ly_c hc).1 rfl (by omega) dX2_readHat_28 rfl ?_
      refine V_aload_n 32 1 rfl _ rfl rfl dX2_readHat_31 rfl ?_
      refine V_iconst 33 (1) rfl dX2_readHat_32 rfl ?_
      refine V_bipush 35 (12) rfl dX2_readHat_33 rfl ?_
      refine V_callV (K' := 0) (S' := 0) 38 1 8 2 [.int 1, .int 12] mkX8_takeNumber lkX2_87 (by decide) rfl rfl (by decide) rfl (Nat.le_of_ble_eq_true rfl) (Nat.le_of_ble_eq_true rfl) (Nat.le_of_ble_eq_true rfl) (Nat.le_of_ble_eq_true rfl) rfl rfl dX2_readHat_35 rfl (c_X8_takeNumber (lo := 1) (cnt := 13) hRK hT (by decide) (hh_lit 12 (by decide)) (nx_z hp).2.1 (fun e => absurd rfl e) (fun v35 p35 _ e35 => ?_) (fun k35 _ e35 => ?_))
      · refine Kq_i (k' := 0) (sl' := 0) rfl rfl ?_
        obtain ⟨-, -, lo35, hi35, -, -, lt35, hp35⟩ := pNum_ok e35
        refine V_iastN 39 (c + 1) 8 (cH K) (by omega) (by decide) (ly_c hc).2.1 (by omega) dX2_readHat_38 rfl ?_
        rw [tp_up (by omega)]
        refine V_aload_n 40 0 rfl _ rfl rfl dX2_readHat_39 rfl ?_
        refine V_getR 43 c 2 1 (c + 2) (rk_c1 hRK hc) flX2_15 rfl (ly_c hc).1 rfl (by omega) dX2_readHat_40 rfl ?_
        refine V_aload_n 44 0 rfl _ rfl rfl dX2_readHat_43 rfl ?_
        refine V_getI 47 c 2 6 (nI (cH K)) (show tp t z _ _ _ _ c 6 = _ from by rw [tp_n (by omega), up2_n _ _ _ (by omega)]; exact hC.1) flX2_30 rfl (ly_c hc).1 rfl (by omega) dX2_readHat_44 rfl ?_
        refine V_aload_n 48 1 rfl _ rfl rfl dX2_readHat_47 rfl ?_
        refine V_iconst 49 (0) rfl dX2_readHat_48 rfl ?_
        refine V_bipush 51 (7) rfl dX2_readHat_49 rfl ?_
        refine V_callV (K' := 0) (S' := 0) 54 1 8 2 [.int 0, .int 7] mkX8_takeNumber lkX2_87 (by decide) rfl rfl (by decide) rfl (Nat.le_of_ble_eq_true rfl) (Nat.le_of_ble_eq_true rfl) (Nat.le_of_ble_eq_true rfl) (Nat.le_of_ble_eq_true rfl) rfl rfl dX2_readHat_51 rfl (c_X8_takeNumber (lo := 0) (cnt := 8) hRK (TxC.up hT (by omega) (by omega)) (by decide) (hh_lit 7 (by decide)) hp35 (fun e => absurd rfl e) (fun v51 p51 _ e51 => ?_) (fun k51 _ e51 => ?_))
        · refine Kq_i (k' := 0) (sl' := 0) rfl rfl ?_
          obtain ⟨-, -, lo51, hi51, -, -, lt51, hp51⟩ := pNum_ok e51
          refine V_iastN 55 (c + 2) 8 (cH K) (by omega) (by decide) (ly_c hc).2.2.1 (by omega) dX2_readHat_54 rfl ?_
          rw [tp_up (by omega)]
          refine V_aload_n 56 0 rfl _ rfl rfl dX2_readHat_55 rfl ?_
          refine V_dup 57 rfl dX2_readHat_56 rfl ?_
          refine V_getI 60 c 2 6 (nI (cH K)) (show tp t z _ _ _ _ c 6 = _ from by rw [tp_n (by omega), up2_n _ _ _ (by omega), up2_n _ _ _ (by omega)]; exact hC.1) flX2_30 rfl (ly_c hc).1 rfl (by omega) dX2_readHat_57 rfl ?_
          refine V_iconst 61 (1) rfl dX2_readHat_60 rfl ?_
          refine V_iadd 62 dX2_readHat_61 rfl ?_
          refine V_rw (nI_add (cH K) 1) ?_
          refine V_putI 65 c 2 6 flX2_30 rfl (ly_c hc).1 rfl (by omega) rfl dX2_readHat_62 rfl ?_
          rw [tp_up (by omega)]
          refine V_ret_v rfl (Nat.le_of_ble_eq_true rfl) (fun h => absurd h (by decide)) (Nat.le_of_ble_eq_true rfl) (hk _ _ _ ((if_neg (fun q => q.elim (fl0 hfl c1) (fun h => absurd c10 (nI_nlt h (by omega))))).trans ((bd_ok e35).trans (bd_ok e51))) (CoastC_hat hC) (fun a ha => by rw [up2_n _ _ _ (by omega), up2_n _ _ _ (by omega), up2_n _ _ _ (by omega)]) hp51) dX2_readHat_65
        · refine Kq_i (k' := 0) (sl' := 0) rfl rfl ?_
          have kk51 := pNum_k e51
          have kne51 := kd_ne kk51.1 kk51.2
          refine V_iastN 55 (c + 2) 8 (cH K) (by omega) (by decide) (ly_c hc).2.2.1 (by omega) dX2_readHat_54 rfl ?_
          rw [tp_up (by omega)]
          refine V_aload_n 56 0 rfl _ rfl rfl dX2_readHat_55 rfl ?_
          refine V_dup 57 rfl dX2_readHat_56 rfl ?_
          refine V_getI 60 c 2 6 (nI (cH K)) (show tp t z _ _ _ _ c 6 = _ from by rw [tp_n (by omega), up2_n _ _ _ (by omega), up2_n _ _ _ (by omega)]; exact hC.1) flX2_30 rfl (ly_c hc).1 rfl (by omega) dX2_readHat_57 rfl ?_
          refine V_iconst 61 (1) rfl dX2_readHat_60 rfl ?_
          refine V_iadd 62 dX2_readHat_61 rfl ?_
          refine V_rw (nI_add (cH K) 1) ?_
          refine V_putI 65 c 2 6 flX2_30 rfl (ly_c hc).1 rfl (by omega) rfl dX2_readHat_62 rfl ?_
          rw [tp_up (by omega)]
          refine V_ret_v rfl (Nat.le_of_ble_eq_true rfl) (fun h => absurd h (by decide)) (Nat.le_of_ble_eq_true rfl) (hb _ _ _ _ ((if_neg (fun q => q.elim (fl0 hfl c1) (fun h => absurd c10 (nI_nlt h (by omega))))).trans ((bd_ok e35).trans (bd_no e51))) kk51.1 kk51.2 (fun a ha => by rw [up2_n _ _ _ (by omega), up2_n _ _ _ (by omega), up2_n _ _ _ (by omega)]) hp35) dX2_readHat_65
      · refine Kq_i (k' := 0) (sl' := 0) rfl rfl ?_
        have kk35 := pNum_k e35
        have kne35 := kd_ne kk35.1 kk35.2
        refine V_iastN 39 (c + 1) 8 (cH K) (by omega) (by decide) (ly_c hc).2.1 (by omega) dX2_readHat_38 rfl ?_
        rw [tp_up (by omega)]
        refine V_aload_n 40 0 rfl _ rfl rfl dX2_readHat_39 rfl ?_
        refine V_getR 43 c 2 1 (c + 2) (rk_c1 hRK hc) flX2_15 rfl (ly_c hc).1 rfl (by omega) dX2_readHat_40 rfl ?_
        refine V_aload_n 44 0 rfl _ rfl rfl dX2_readHat_43 rfl ?_
        refine V_getI 47 c 2 6 (nI (cH K)) (show tp t z _ _ _ _ c 6 = _ from by rw [tp_n (by omega), up2_n _ _ _ (by omega)]; exact hC.1) flX2_30 rfl (ly_c hc).1 rfl (by omega) dX2_readHat_44 rfl ?_
        refine V_aload_n 48 1 rfl _ rfl rfl dX2_readHat_47 rfl ?_
        refine V_iconst 49 (0) rfl dX2_readHat_48 rfl ?_
        refine V_bipush 51 (7) rfl dX2_readHat_49 rfl ?_
        refine V_callV (K' := 0) (S' := 0) 54 1 8 2 [.int 0, .int 7] mkX8_takeNumber lkX2_87 (by decide) rfl rfl (by decide) rfl (Nat.le_of_ble_eq_true rfl) (Nat.le_of_ble_eq_true rfl) (Nat.le_of_ble_eq_true rfl) (Nat.le_of_ble_eq_true rfl) rfl rfl dX2_readHat_51 rfl (c_X8_takeNumber (lo := 0) (cnt := 8) hRK (TxC.up hT (by omega) (by omega)) (by decide) (hh_lit 7 (by decide)) (nx_z hp).2.1 (fun _ => ?_) (fun _ _ e _ => absurd e kne35) (fun _ e _ => absurd e kne35))
        refine Kq_i (k' := 0) (sl' := 0) rfl rfl ?_
        refine V_iastN 55 (c + 2) 8 (cH K) (by omega) (by decide) (ly_c hc).2.2.1 (by omega) dX2_readHat_54 rfl ?_
        rw [tp_up (by omega)]
        refine V_aload_n 56 0 rfl _ rfl rfl dX2_readHat_55 rfl ?_
        refine V_dup 57 rfl dX2_readHat_56 rfl ?_
        refine V_getI 60 c 2 6 (nI (cH K)) (show tp t z _ _ _ _ c 6 = _ from by rw [tp_n (by omega), up2_n _ _ _ (by omega), up2_n _ _ _ (by omega)]; exact hC.1) flX2_30 rfl (ly_c hc).1 rfl (by omega) dX2_readHat_57 rfl ?_
        refine V_iconst 61 (1) rfl dX2_readHat_60 rfl ?_
        refine V_iadd 62 dX2_readHat_61 rfl ?_
        refine V_rw (nI_add (cH K) 1) ?_
        refine V_putI 65 c 2 6 flX2_30 rfl (ly_c hc).1 rfl (by omega) rfl dX2_readHat_62 rfl ?_
        rw [tp_up (by omega)]
        refine V_ret_v rfl (Nat.le_of_ble_eq_true rfl) (fun h => absurd h (by decide)) (Nat.le_of_ble_eq_true rfl) (hb _ _ _ _ ((if_neg (fun q => q.elim (fl0 hfl c1) (fun h => absurd c10 (nI_nlt h (by omega))))).trans (bd_no e35)) kk35.1 kk35.2 (fun a ha => by rw [up2_n _ _ _ (by omega), up2_n _ _ _ (by omega), up2_n _ _ _ (by omega)]) (nx_z hp).2.1) dX2_readHat_65
    · refine V_aload_n 14 1 rfl _ rfl rfl dX2_readHat_13 rfl ?_
      refine V_iconst 15 (3) rfl dX2_readHat_14 rfl ?_
      refine V_callV (K' := 0) (S' := 0) 18 1 8 1 [.int 3] mkX8_fail lkX2_80 (by decide) rfl rfl (by decide) rfl (Nat.le_of_ble_eq_true rfl) (Nat.le_of_ble_eq_true rfl) (Nat.le_of_ble_eq_true rfl) (Nat.le_of_ble_eq_true rfl) rfl rfl dX2_readHat_15 rfl (c_X8_fail (k := 3) hRK hT (fun e => absurd rfl e) (fun _ => ?_))
      refine Kq_v (k' := 0) (sl' := 0) rfl rfl ?_
      refine V_ret_v rfl (Nat.le_of_ble_eq_true rfl) (fun h => absurd h (by decide)) (Nat.le_of_ble_eq_true rfl) (hb 3 _ _ _ (if_pos (by first | exact Or.inl (fl1 hfl c1) | exact Or.inr ((nI_leI (by decide) (by omega)).mp (Int32.not_lt.mp c10)))) (by decide) (by decide) FrX.rf hp) dX2_readHat_18
set_option maxHeartbeats 8000000 in
theorem c_X2_readGround {G : Gx} {d : Nat} {I : FI} {R : FR} {J : FJ} {Q : Po} (hRK : RK R) {t : Nat → Nat} {z : Nat} (hT : TxC I t z) {c : Nat} (hc : c = 4 ∨ c = 51) {K : CO} (hC : CoastC I c K) (h8 : cH K ≤ 8) (hg6 : cG K ≤ 6) (h6 : cM K ≤ 6) {p : Nat} {fp : Int32} (hp : p ≤ z) {fl : Nat} (hfl : fl ≤ 1) (hk : ∀ K' p' I', pGround t z fl K p = .inr (K', p') → CoastC I' c K' → FrX I I' c → p' ≤ z → Q (.inl none) 103 (tp t z I' p' 0 fp) R J) (hb : ∀ k q p' I', pGround t z fl K p = .inl (k, q) → 0 < k → k ≤ 3 → FrX I I' c → p' ≤ z → Q (.inl none) 103 (tp t z I' p' (nI k) (nI q)) R J) : Cc G mX2_readGround (d + 1 + 1 + 1 + 1 + 1) 0 0 [rf G c, rf G 1, .int (nI fl)] 103 (tp t z I p 0 fp) R J Q := by
  show V _ _ _ _ _ _ _ _ [(0, rf G c), (1, rf G 1), (2, .int (nI fl))] [] _ _ _ _ _
  refine V_iload_n 1 2 rfl rfl dX2_readGround_0 rfl ?_
  refine V_if_ne 13 4 rfl dX2_readGround_1 rfl (fun c1 => ?_) (fun c1 => ?_)
  · refine V_aload_n 14 1 rfl _ rfl rfl dX2_readGround_13 rfl ?_
    refine V_iconst 15 (3) rfl dX2_readGround_14 rfl ?_
    refine V_callV (K' := 0) (S' := 0) 18 1 8 1 [.int 3] mkX8_fail lkX2_80 (by decide) rfl rfl (by decide) rfl (Nat.le_of_ble_eq_true rfl) (Nat.le_of_ble_eq_true rfl) (Nat.le_of_ble_eq_true rfl) (Nat.le_of_ble_eq_true rfl) rfl rfl dX2_readGround_15 rfl (c_X8_fail (k := 3) hRK hT (fun e => absurd rfl e) (fun _ => ?_))
    refine Kq_v (k' := 0) (sl' := 0) rfl rfl ?_
    refine V_ret_v rfl (Nat.le_of_ble_eq_true rfl) (fun h => absurd h (by decide)) (Nat.le_of_ble_eq_true rfl) (hb 3 _ _ _ (if_pos (by first | exact Or.inl (fl1 hfl c1) | exact Or.inr ((nI_leI (by decide) (by omega)).mp (Int32.not_lt.mp c10)))) (by decide) (by decide) FrX.rf hp) dX2_readGround_18
  · refine V_aload_n 5 0 rfl _ rfl rfl dX2_readGround_4 rfl ?_
    refine V_getI 8 c 2 7 (nI (cG K)) (show tp t z _ _ _ _ c 7 = _ from by rw [tp_n (by omega)]; exact hC.2.1) flX2_34 rfl (ly_c hc).1 rfl (by omega) dX2_readGround_5 rfl ?_
    refine V_bipush 10 (6) rfl dX2_readGround_8 rfl ?_
    refine V_icmp_lt 19 13 rfl dX2_readGround_10 rfl (fun c10 => ?_) (fun c10 => ?_)
    · have cn := (nI_ltI (b := 6) (by omega) (by decide)).mp c10
      refine V_aload_n 20 1 rfl _ rfl rfl dX2_readGround_19 rfl ?_
      refine V_callV (K' := 0) (S' := 0) 23 1 8 0 [] mkX8_next lkX2_84 (by decide) rfl rfl (by decide) rfl (Nat.le_of_ble_eq_true rfl) (Nat.le_of_ble_eq_true rfl) (Nat.le_of_ble_eq_true rfl) (Nat.le_of_ble_eq_true rfl) rfl rfl dX2_readGround_20 rfl (c_X8_next hRK hT (enF_z hp).2.1 ?_)
      refine Kq_v (k' := 0) (sl' := 0) rfl rfl ?_
      refine V_aload_n 24 0 rfl _ rfl rfl dX2_readGround_23 rfl ?_
      refine V_getR 27 c 2 2 (c + 3) (rk_c2 hRK hc) flX2_18 rfl (ly_c hc).1 rfl (by omega) dX2_readGround_24 rfl ?_
      refine V_aload_n 28 0 rfl _ rfl rfl dX2_readGround_27 rfl ?_
      refine V_getI 31 c 2 7 (nI (cG K)) (show tp t z _ _ _ _ c 7 = _ from by rw [tp_n (by omega)]; exact hC.2.1) flX2_34 rfl (ly_c hc).1 rfl (by omega) dX2_readGround_28 rfl ?_
      refine V_aload_n 32 1 rfl _ rfl rfl dX2_readGround_31 rfl ?_
      refine V_iconst 33 (0) rfl dX2_readGround_32 rfl ?_
      refine V_sipush 36 (999) rfl dX2_readGround_33 rfl ?_
      refine V_callV (K' := 0) (S' := 0) 39 1 8 2 [.int 0, .int 999] mkX8_takeNumber lkX2_87 (by decide) rfl rfl (by decide) rfl (Nat.le_of_ble_eq_true rfl) (Nat.le_of_ble_eq_true rfl) (Nat.le_of_ble_eq_true rfl) (Nat.le_of_ble_eq_true rfl) rfl rfl dX2_readGround_36 rfl (c_X8_takeNumber (lo := 0) (cnt := 1000) hRK hT (by decide) (hh_lit 999 (by decide)) (nx_z hp).2.1 (fun e => absurd rfl e) (fun v36 p36 _ e36 => ?_) (fun k36 _ e36 => ?_))
      · refine Kq_i (k' := 0) (sl' := 0) rfl rfl ?_
        obtain ⟨-, -, lo36, hi36, -, -, lt36, hp36⟩ := pNum_ok e36
        refine V_iastN 40 (c + 3) 6 (cG K) (by omega) (by decide) (ly_c hc).2.2.2.1 (by omega) dX2_readGround_39 rfl ?_
        rw [tp_up (by omega)]
        refine V_aload_n 41 0 rfl _ rfl rfl dX2_readGround_40 rfl ?_
        refine V_getR 44 c 2 3 (c + 4) (rk_c3 hRK hc) flX2_21 rfl (ly_c hc).1 rfl (by omega) dX2_readGround_41 rfl ?_
        refine V_aload_n 45 0 rfl _ rfl rfl dX2_readGround_44 rfl ?_
        refine V_getI 48 c 2 7 (nI (cG K)) (show tp t z _ _ _ _ c 7 = _ from by rw [tp_n (by omega), up2_n _ _ _ (by omega)]; exact hC.2.1) flX2_34 rfl (ly_c hc).1 rfl (by omega) dX2_readGround_45 rfl ?_
        refine V_aload_n 49 1 rfl _ rfl rfl dX2_readGround_48 rfl ?_
        refine V_iconst 50 (0) rfl dX2_readGround_49 rfl ?_
        refine V_bipush 52 (7) rfl dX2_readGround_50 rfl ?_
        refine V_callV (K' := 0) (S' := 0) 55 1 8 2 [.int 0, .int 7] mkX8_takeNumber lkX2_87 (by decide) rfl rfl (by decide) rfl (Nat.le_of_ble_eq_true rfl) (Nat.le_of_ble_eq_true rfl) (Nat.le_of_ble_eq_true rfl) (Nat.le_of_ble_eq_true rfl) rfl rfl dX2_readGround_52 rfl (c_X8_takeNumber (lo := 0) (cnt := 8) hRK (TxC.up hT (by omega) (by omega)) (by decide) (hh_lit 7 (by decide)) hp36 (fun e => absurd rfl e) (fun v52 p52 _ e52 => ?_) (fun k52 _ e52 => ?_))
        · refine Kq_i (k' := 0) (sl' := 0) rfl rfl ?_
          obtain ⟨-, -, lo52, hi52, -, -, lt52, hp52⟩ := pNum_ok e52
          refine V_iastN 56 (c + 4) 6 (cG K) (by omega) (by decide) (ly_c hc).2.2.2.2.1 (by omega) dX2_readGround_55 rfl ?_
          rw [tp_up (by omega)]
          refine V_aload_n 57 0 rfl _ rfl rfl dX2_readGround_56 rfl ?_
          refine V_dup 58 rfl dX2_readGround_57 rfl ?_
          refine V_getI 61 c 2 7 (nI (cG K)) (show tp t z _ _ _ _ c 7 = _ from by rw [tp_n (by omega), up2_n _ _ _ (by omega), up2_n _ _ _ (by omega)]; exact hC.2.1) flX2_34 rfl (ly_c hc).1 rfl (by omega) dX2_readGround_58 rfl ?_
          refine V_iconst 62 (1) rfl dX2_readGround_61 rfl ?_
          refine V_iadd 63 dX2_readGround_62 rfl ?_
          refine V_rw (nI_add (cG K) 1) ?_
          refine V_putI 66 c 2 7 flX2_34 rfl (ly_c hc).1 rfl (by omega) rfl dX2_readGround_63 rfl ?_
          rw [tp_up (by omega)]
          refine V_ret_v rfl (Nat.le_of_ble_eq_true rfl) (fun h => absurd h (by decide)) (Nat.le_of_ble_eq_true rfl) (hk _ _ _ ((if_neg (fun q => q.elim (fl0 hfl c1) (fun h => absurd c10 (nI_nlt h (by omega))))).trans ((bd_ok e36).trans (bd_ok e52))) (CoastC_gr hC) (fun a ha => by rw [up2_n _ _ _ (by omega), up2_n _ _ _ (by omega), up2_n _ _ _ (by omega)]) hp52) dX2_readGround_66
        · refine Kq_i (k' := 0) (sl' := 0) rfl rfl ?_
          have kk52 := pNum_k e52
          have kne52 := kd_ne kk52.1 kk52.2
          refine V_iastN 56 (c + 4) 6 (cG K) (by omega) (by decide) (ly_c hc).2.2.2.2.1 (by omega) dX2_readGround_55 rfl ?_
          rw [tp_up (by omega)]
          refine V_aload_n 57 0 rfl _ rfl rfl dX2_readGround_56 rfl ?_
          refine V_dup 58 rfl dX2_readGround_57 rfl ?_
          refine V_getI 61 c 2 7 (nI (cG K)) (show tp t z _ _ _ _ c 7 = _ from by rw [tp_n (by omega), up2_n _ _ _ (by omega), up2_n _ _ _ (by omega)]; exact hC.2.1) flX2_34 rfl (ly_c hc).1 rfl (by omega) dX2_readGround_58 rfl ?_
          refine V_iconst 62 (1) rfl dX2_readGround_61 rfl ?_
          refine V_iadd 63 dX2_readGround_62 rfl ?_
          refine V_rw (nI_add (cG K) 1) ?_
          refine V_putI 66 c 2 7 flX2_34 rfl (ly_c hc).1 rfl (by omega) rfl dX2_readGround_63 rfl ?_
          rw [tp_up (by omega)]
          refine V_ret_v rfl (Nat.le_of_ble_eq_true rfl) (fun h => absurd h (by decide)) (Nat.le_of_ble_eq_true rfl) (hb _ _ _ _ ((if_neg (fun q => q.elim (fl0 hfl c1) (fun h => absurd c10 (nI_nlt h (by omega))))).trans ((bd_ok e36).trans (bd_no e52))) kk52.1 kk52.2 (fun a ha => by rw [up2_n _ _ _ (by omega), up2_n _ _ _ (by omega), up2_n _ _ _ (by omega)]) hp36) dX2_readGround_66
      · refine Kq_i (k' := 0) (sl' := 0) rfl rfl ?_
        have kk36 := pNum_k e36
        have kne36 := kd_ne kk36.1 kk36.2
        refine V_iastN 40 (c + 3) 6 (cG K) (by omega) (by decide) (ly_c hc).2.2.2.1 (by omega) dX2_readGround_39 rfl ?_
        rw [tp_up (by omega)]
        refine V_aload_n 41 0 rfl _ rfl rfl dX2_readGround_40 rfl ?_
        refine V_getR 44 c 2 3 (c + 4) (rk_c3 hRK hc) flX2_21 rfl (ly_c hc).1 rfl (by omega) dX2_readGround_41 rfl ?_
        refine V_aload_n 45 0 rfl _ rfl rfl dX2_readGround_44 rfl ?_
        refine V_getI 48 c 2 7 (nI (cG K)) (show tp t z _ _ _ _ c 7 = _ from by rw [tp_n (by omega), up2_n _ _ _ (by omega)]; exact hC.2.1) flX2_34 rfl (ly_c hc).1 rfl (by omega) dX2_readGround_45 rfl ?_
        refine V_aload_n 49 1 rfl _ rfl rfl dX2_readGround_48 rfl ?_
        refine V_iconst 50 (0) rfl dX2_readGround_49 rfl ?_
        refine V_bipush 52 (7) rfl dX2_readGround_50 rfl ?_
        refine V_callV (K' := 0) (S' := 0) 55 1 8 2 [.int 0, .int 7] mkX8_takeNumber lkX2_87 (by decide) rfl rfl (by decide) rfl (Nat.le_of_ble_eq_true rfl) (Nat.le_of_ble_eq_true rfl) (Nat.le_of_ble_eq_true rfl) (Nat.le_of_ble_eq_true rfl) rfl rfl dX2_readGround_52 rfl (c_X8_takeNumber (lo := 0) (cnt := 8) hRK (TxC.up hT (by omega) (by omega)) (by decide) (hh_lit 7 (by decide)) (nx_z hp).2.1 (fun _ => ?_) (fun _ _ e _ => absurd e kne36) (fun _ e _ => absurd e kne36))
        refine Kq_i (k' := 0) (sl' := 0) rfl rfl ?_
        refine V_iastN 56 (c + 4) 6 (cG K) (by omega) (by decide) (ly_c hc).2.2.2.2.1 (by omega) dX2_readGround_55 rfl ?_
        rw [tp_up (by omega)]
        refine V_aload_n 57 0 rfl _ rfl rfl dX2_readGround_56 rfl ?_
        refine V_dup 58 rfl dX2_readGround_57 rfl ?_
        refine V_getI 61 c 2 7 (nI (cG K)) (show tp t z _ _ _ _ c 7 = _ from by rw [tp_n (by omega), up2_n _ _ _ (by omega), up2_n _ _ _ (by omega)]; exact hC.2.1) flX2_34 rfl (ly_c hc).1 rfl (by omega) dX2_readGround_58 rfl ?_
        refine V_iconst 62 (1) rfl dX2_readGround_61 rfl ?_
        refine V_iadd 63 dX2_readGround_62 rfl ?_
        refine V_rw (nI_add (cG K) 1) ?_
        refine V_putI 66 c 2 7 flX2_34 rfl (ly_c hc).1 rfl (by omega) rfl dX2_readGround_63 rfl ?_
        rw [tp_up (by omega)]
        refine V_ret_v rfl (Nat.le_of_ble_eq_true rfl) (fun h => absurd h (by decide)) (Nat.le_of_ble_eq_true rfl) (hb _ _ _ _ ((if_neg (fun q => q.elim (fl0 hfl c1) (fun h => absurd c10 (nI_nlt h (by omega))))).trans (bd_no e36)) kk36.1 kk36.2 (fun a ha => by rw [up2_n _ _ _ (by omega), up2_n _ _ _ (by omega), up2_n _ _ _ (by omega)]) (nx_z hp).2.1) dX2_readGround_66
    · refine V_aload_n 14 1 rfl _ rfl rfl dX2_readGround_13 rfl ?_
      refine V_iconst 15 (3) rfl dX2_readGround_14 rfl ?_
      refine V_callV (K' := 0) (S' := 0) 18 1 8 1 [.int 3] mkX8_fail lkX2_80 (by decide) rfl rfl (by decide) rfl (Nat.le_of_ble_eq_true rfl) (Nat.le_of_ble_eq_true rfl) (Nat.le_of_ble_eq_true rfl) (Nat.le_of_ble_eq_true rfl) rfl rfl dX2_readGround_15 rfl (c_X8_fail (k := 3) hRK hT (fun e => absurd rfl e) (fun _ => ?_))
      refine Kq_v (k' := 0) (sl' := 0) rfl rfl ?_
      refine V_ret_v rfl (Nat.le_of_ble_eq_true rfl) (fun h => absurd h (by decide)) (Nat.le_of_ble_eq_true rfl) (hb 3 _ _ _ (if_pos (by first | exact Or.inl (fl1 hfl c1) | exact Or.inr ((nI_leI (by decide) (by omega)).mp (Int32.not_lt.mp c10)))) (by decide) (by decide) FrX.rf hp) dX2_readGround_18
set_option maxHeartbeats 8000000 in
theorem c_X2_readMan {G : Gx} {d : Nat} {I : FI} {R : FR} {J : FJ} {Q : Po} (hRK : RK R) {t : Nat → Nat} {z : Nat} (hT : TxC I t z) {c : Nat} (hc : c = 4 ∨ c = 51) {K : CO} (hC : CoastC I c K) (h8 : cH K ≤ 8) (hg6 : cG K ≤ 6) (h6 : cM K ≤ 6) {p : Nat} {fp : Int32} (hp : p ≤ z) {fl : Nat} (hfl : fl ≤ 1) (hk : ∀ K' p' I', pMan t z fl K p = .inr (K', p') → CoastC I' c K' → FrX I I' c → p' ≤ z → Q (.inl none) 103 (tp t z I' p' 0 fp) R J) (hb : ∀ k q p' I', pMan t z fl K p = .inl (k, q) → 0 < k → k ≤ 3 → FrX I I' c → p' ≤ z → Q (.inl none) 103 (tp t z I' p' (nI k) (nI q)) R J) : Cc G mX2_readMan (d + 1 + 1 + 1 + 1 + 1) 0 0 [rf G c, rf G 1, .int (nI fl)] 103 (tp t z I p 0 fp) R J Q := by
  show V _ _ _ _ _ _ _ _ [(0, rf G c), (1, rf G 1), (2, .int (nI fl))] [] _ _ _ _ _
  refine V_iload_n 1 2 rfl rfl dX2_readMan_0 rfl ?_
  refine V_if_ne 13 4 rfl dX2_readMan_1 rfl (fun c1 => ?_) (fun c1 => ?_)
  · refine V_aload_n 14 1 rfl _ rfl rfl dX2_readMan_13 rfl ?_
    refine V_iconst 15 (3) rfl dX2_readMan_14 rfl ?_
    refine V_callV (K' := 0) (S' := 0) 18 1 8 1 [.int 3] mkX8_fail lkX2_80 (by decide) rfl rfl (by decide) rfl (Nat.le_of_ble_eq_true rfl) (Nat.le_of_ble_eq_true rfl) (Nat.le_of_ble_eq_true rfl) (Nat.le_of_ble_eq_true rfl) rfl rfl dX2_readMan_15 rfl (c_X8_fail (k := 3) hRK hT (fun e => absurd rfl e) (fun _ => ?_))
    refine Kq_v (k' := 0) (sl' := 0) rfl rfl ?_
    refine V_ret_v rfl (Nat.le_of_ble_eq_true rfl) (fun h => absurd h (by decide)) (Nat.le_of_ble_eq_true rfl) (hb 3 _ _ _ (if_pos (by first | exact Or.inl (fl1 hfl c1) | exact Or.inr ((nI_leI (by decide) (by omega)).mp (Int32.not_lt.mp c10)))) (by decide) (by decide) FrX.rf hp) dX2_readMan_18
  · refine V_aload_n 5 0 rfl _ rfl rfl dX2_readMan_4 rfl ?_
    refine V_getI 8 c 2 8 (nI (cM K)) (show tp t z _ _ _ _ c 8 = _ from by rw [tp_n (by omega)]; exact hC.2.2.1) flX2_37 rfl (ly_c hc).1 rfl (by omega) dX2_readMan_5 rfl ?_
    refine V_bipush 10 (6) rfl dX2_readMan_8 rfl ?_
    refine V_icmp_lt 19 13 rfl dX2_readMan_10 rfl (fun c10 => ?_) (fun c10 => ?_)
    · have cn := (nI_ltI (b := 6) (by omega) (by decide)).mp c10
      refine V_aload_n 20 1 rfl _ rfl rfl dX2_readMan_19 rfl ?_
      refine V_callV (K' := 0) (S' := 0) 23 1 8 0 [] mkX8_next lkX2_84 (by decide) rfl rfl (by decide) rfl (Nat.le_of_ble_eq_true rfl) (Nat.le_of_ble_eq_true rfl) (Nat.le_of_ble_eq_true rfl) (Nat.le_of_ble_eq_true rfl) rfl rfl dX2_readMan_20 rfl (c_X8_next hRK hT (enF_z hp).2.1 ?_)
      refine Kq_v (k' := 0) (sl' := 0) rfl rfl ?_
      refine V_aload_n 24 0 rfl _ rfl rfl dX2_readMan_23 rfl ?_
      refine V_getR 27 c 2 4 (c + 5) (rk_c4 hRK hc) flX2_24 rfl (ly_c hc).1 rfl (by omega) dX2_readMan_24 rfl ?_
      refine V_aload_n 28 0 rfl _ rfl rfl dX2_readMan_27 rfl ?_
      refine V_getI 31 c 2 8 (nI (cM K)) (show tp t z _ _ _ _ c 8 = _ from by rw [tp_n (by omega)]; exact hC.2.2.1) flX2_37 rfl (ly_c hc).1 rfl (by omega) dX2_readMan_28 rfl ?_
      refine V_aload_n 32 1 rfl _ rfl rfl dX2_readMan_31 rfl ?_
      refine V_iconst 33 (1) rfl dX2_readMan_32 rfl ?_
      refine V_bipush 35 (99) rfl dX2_readMan_33 rfl ?_
      refine V_callV (K' := 0) (S' := 0) 38 1 8 2 [.int 1, .int 99] mkX8_takeNumber lkX2_87 (by decide) rfl rfl (by decide) rfl (Nat.le_of_ble_eq_true rfl) (Nat.le_of_ble_eq_true rfl) (Nat.le_of_ble_eq_true rfl) (Nat.le_of_ble_eq_true rfl) rfl rfl dX2_readMan_35 rfl (c_X8_takeNumber (lo := 1) (cnt := 100) hRK hT (by decide) (hh_lit 99 (by decide)) (nx_z hp).2.1 (fun e => absurd rfl e) (fun v35 p35 _ e35 => ?_) (fun k35 _ e35 => ?_))
      · refine Kq_i (k' := 0) (sl' := 0) rfl rfl ?_
        obtain ⟨-, -, lo35, hi35, -, -, lt35, hp35⟩ := pNum_ok e35
        refine V_iastN 39 (c + 5) 6 (cM K) (by omega) (by decide) (ly_c hc).2.2.2.2.2.1 (by omega) dX2_readMan_38 rfl ?_
        rw [tp_up (by omega)]
        refine V_aload_n 40 0 rfl _ rfl rfl dX2_readMan_39 rfl ?_
        refine V_getR 43 c 2 5 (c + 6) (rk_c5 hRK hc) flX2_27 rfl (ly_c hc).1 rfl (by omega) dX2_readMan_40 rfl ?_
        refine V_aload_n 44 0 rfl _ rfl rfl dX2_readMan_43 rfl ?_
        refine V_getI 47 c 2 8 (nI (cM K)) (show tp t z _ _ _ _ c 8 = _ from by rw [tp_n (by omega), up2_n _ _ _ (by omega)]; exact hC.2.2.1) flX2_37 rfl (ly_c hc).1 rfl (by omega) dX2_readMan_44 rfl ?_
        refine V_iconst 48 (-1) rfl dX2_readMan_47 rfl ?_
        refine V_iastN 49 (c + 6) 6 (cM K) (by omega) (by decide) (ly_c hc).2.2.2.2.2.2 (by omega) dX2_readMan_48 rfl ?_
        rw [tp_up (by omega)]
        refine V_aload_n 50 0 rfl _ rfl rfl dX2_readMan_49 rfl ?_
        refine V_dup 51 rfl dX2_readMan_50 rfl ?_
        refine V_getI 54 c 2 8 (nI (cM K)) (show tp t z _ _ _ _ c 8 = _ from by rw [tp_n (by omega), up2_n _ _ _ (by omega), up2_n _ _ _ (by omega)]; exact hC.2.2.1) flX2_37 rfl (ly_c hc).1 rfl (by omega) dX2_readMan_51 rfl ?_
        refine V_iconst 55 (1) rfl dX2_readMan_54 rfl ?_
        refine V_iadd 56 dX2_readMan_55 rfl ?_
        refine V_rw (nI_add (cM K) 1) ?_
        refine V_putI 59 c 2 8 flX2_37 rfl (ly_c hc).1 rfl (by omega) rfl dX2_readMan_56 rfl ?_
        rw [tp_up (by omega)]
        refine V_ret_v rfl (Nat.le_of_ble_eq_true rfl) (fun h => absurd h (by decide)) (Nat.le_of_ble_eq_true rfl) (hk _ _ _ ((if_neg (fun q => q.elim (fl0 hfl c1) (fun h => absurd c10 (nI_nlt h (by omega))))).trans (bd_ok e35)) (CoastC_man hC) (fun a ha => by rw [up2_n _ _ _ (by omega), up2_n _ _ _ (by omega), up2_n _ _ _ (by omega)]) hp35) dX2_readMan_59
      · refine Kq_i (k' := 0) (sl' := 0) rfl rfl ?_
        have kk35 := pNum_k e35
        have kne35 := kd_ne kk35.1 kk35.2
        refine V_iastN 39 (c + 5) 6 (cM K) (by omega) (by decide) (ly_c hc).2.2.2.2.2.1 (by omega) dX2_readMan_38 rfl ?_
        rw [tp_up (by omega)]
        refine V_aload_n 40 0 rfl _ rfl rfl dX2_readMan_39 rfl ?_
        refine V_getR 43 c 2 5 (c + 6) (rk_c5 hRK hc) flX2_27 rfl (ly_c hc).1 rfl (by omega) dX2_readMan_40 rfl ?_
        refine V_aload_n 44 0 rfl _ rfl rfl dX2_readMan_43 rfl ?_
        refine V_getI 47 c 2 8 (nI (cM K)) (show tp t z _ _ _ _ c 8 = _ from by rw [tp_n (by omega), up2_n _ _ _ (by omega)]; exact hC.2.2.1) flX2_37 rfl (ly_c hc).1 rfl (by omega) dX2_readMan_44 rfl ?_
        refine V_iconst 48 (-1) rfl dX2_readMan_47 rfl ?_
        refine V_iastN 49 (c + 6) 6 (cM K) (by omega) (by decide) (ly_c hc).2.2.2.2.2.2 (by omega) dX2_readMan_48 rfl ?_
        rw [tp_up (by omega)]
        refine V_aload_n 50 0 rfl _ rfl rfl dX2_readMan_49 rfl ?_
        refine V_dup 51 rfl dX2_readMan_50 rfl ?_
        refine V_getI 54 c 2 8 (nI (cM K)) (show tp t z _ _ _ _ c 8 = _ from by rw [tp_n (by omega), up2_n _ _ _ (by omega), up2_n _ _ _ (by omega)]; exact hC.2.2.1) flX2_37 rfl (ly_c hc).1 rfl (by omega) dX2_readMan_51 rfl ?_
        refine V_iconst 55 (1) rfl dX2_readMan_54 rfl ?_
        refine V_iadd 56 dX2_readMan_55 rfl ?_
        refine V_rw (nI_add (cM K) 1) ?_
        refine V_putI 59 c 2 8 flX2_37 rfl (ly_c hc).1 rfl (by omega) rfl dX2_readMan_56 rfl ?_
        rw [tp_up (by omega)]
        refine V_ret_v rfl (Nat.le_of_ble_eq_true rfl) (fun h => absurd h (by decide)) (Nat.le_of_ble_eq_true rfl) (hb _ _ _ _ ((if_neg (fun q => q.elim (fl0 hfl c1) (fun h => absurd c10 (nI_nlt h (by omega))))).trans (bd_no e35)) kk35.1 kk35.2 (fun a ha => by rw [up2_n _ _ _ (by omega), up2_n _ _ _ (by omega), up2_n _ _ _ (by omega)]) (nx_z hp).2.1) dX2_readMan_59
    · refine V_aload_n 14 1 rfl _ rfl rfl dX2_readMan_13 rfl ?_
      refine V_iconst 15 (3) rfl dX2_readMan_14 rfl ?_
      refine V_callV (K' := 0) (S' := 0) 18 1 8 1 [.int 3] mkX8_fail lkX2_80 (by decide) rfl rfl (by decide) rfl (Nat.le_of_ble_eq_true rfl) (Nat.le_of_ble_eq_true rfl) (Nat.le_of_ble_eq_true rfl) (Nat.le_of_ble_eq_true rfl) rfl rfl dX2_readMan_15 rfl (c_X8_fail (k := 3) hRK hT (fun e => absurd rfl e) (fun _ => ?_))
      refine Kq_v (k' := 0) (sl' := 0) rfl rfl ?_
      refine V_ret_v rfl (Nat.le_of_ble_eq_true rfl) (fun h => absurd h (by decide)) (Nat.le_of_ble_eq_true rfl) (hb 3 _ _ _ (if_pos (by first | exact Or.inl (fl1 hfl c1) | exact Or.inr ((nI_leI (by decide) (by omega)).mp (Int32.not_lt.mp c10)))) (by decide) (by decide) FrX.rf hp) dX2_readMan_18
set_option maxHeartbeats 8000000 in
theorem c_X2_readHeir {G : Gx} {d : Nat} {I : FI} {R : FR} {J : FJ} {Q : Po} (hRK : RK R) {t : Nat → Nat} {z : Nat} (hT : TxC I t z) {c : Nat} (hc : c = 4 ∨ c = 51) {K : CO} (hC : CoastC I c K) (h8 : cH K ≤ 8) (hg6 : cG K ≤ 6) (h6 : cM K ≤ 6) {p : Nat} {fp : Int32} (hp : p ≤ z) {fl : Nat} (hfl : fl ≤ 1) (hk : ∀ K' p' I', pHeir t z fl K p = .inr (K', p') → CoastC I' c K' → FrX I I' c → p' ≤ z → Q (.inl none) 103 (tp t z I' p' 0 fp) R J) (hb : ∀ k q p' I', pHeir t z fl K p = .inl (k, q) → 0 < k → k ≤ 3 → FrX I I' c → p' ≤ z → Q (.inl none) 103 (tp t z I' p' (nI k) (nI q)) R J) : Cc G mX2_readHeir (d + 1 + 1 + 1 + 1 + 1) 0 0 [rf G c, rf G 1, .int (nI fl)] 103 (tp t z I p 0 fp) R J Q := by
  show V _ _ _ _ _ _ _ _ [(0, rf G c), (1, rf G 1), (2, .int (nI fl))] [] _ _ _ _ _
  refine V_iload_n 1 2 rfl rfl dX2_readHeir_0 rfl ?_
  refine V_if_eq 10 4 rfl dX2_readHeir_1 rfl (fun c1 => ?_) (fun c1 => ?_)
  · refine V_aload_n 11 1 rfl _ rfl rfl dX2_readHeir_10 rfl ?_
    refine V_callV (K' := 0) (S' := 0) 14 1 8 0 [] mkX8_next lkX2_84 (by decide) rfl rfl (by decide) rfl (Nat.le_of_ble_eq_true rfl) (Nat.le_of_ble_eq_true rfl) (Nat.le_of_ble_eq_true rfl) (Nat.le_of_ble_eq_true rfl) rfl rfl dX2_readHeir_11 rfl (c_X8_next hRK hT (enF_z hp).2.1 ?_)
    refine Kq_v (k' := 0) (sl' := 0) rfl rfl ?_
    refine V_aload_n 15 1 rfl _ rfl rfl dX2_readHeir_14 rfl ?_
    refine V_iconst 16 (0) rfl dX2_readHeir_15 rfl ?_
    refine V_aload_n 17 0 rfl _ rfl rfl dX2_readHeir_16 rfl ?_
    refine V_getI 20 c 2 8 (nI (cM K)) (show tp t z _ _ _ _ c 8 = _ from by rw [tp_n (by omega)]; exact hC.2.2.1) flX2_37 rfl (ly_c hc).1 rfl (by omega) dX2_readHeir_17 rfl ?_
    refine V_iconst 21 (1) rfl dX2_readHeir_20 rfl ?_
    refine V_isub 22 dX2_readHeir_21 rfl ?_
    refine V_callV (K' := 0) (S' := 0) 25 1 8 2 [.int 0, .int ((nI (cM K)) - 1)] mkX8_takeNumber lkX2_87 (by decide) rfl rfl (by decide) rfl (Nat.le_of_ble_eq_true rfl) (Nat.le_of_ble_eq_true rfl) (Nat.le_of_ble_eq_true rfl) (Nat.le_of_ble_eq_true rfl) rfl rfl dX2_readHeir_22 rfl (c_X8_takeNumber (lo := 0) (cnt := cM K) hRK hT (by decide) (hh_m1 (cM K) (by omega)) (nx_z hp).2.1 (fun e => absurd rfl e) (fun v22 p22 _ e22 => ?_) (fun k22 _ e22 => ?_))
    · refine Kq_i (k' := 0) (sl' := 0) rfl rfl ?_
      obtain ⟨-, -, lo22, hi22, -, -, lt22, hp22⟩ := pNum_ok e22
      refine V_istore_n 26 [(3, .int (nI v22)), (0, rf G c), (1, rf G 1), (2, .int (nI fl))] (by decide) rfl rfl dX2_readHeir_25 rfl ?_
      refine V_aload_n 27 2 rfl _ rfl rfl dX2_readHeir_26 rfl ?_
      refine V_iconst 28 (0) rfl dX2_readHeir_27 rfl ?_
      refine V_aload_n 29 1 rfl _ rfl rfl dX2_readHeir_28 rfl ?_
      refine V_getI 32 c 2 8 (nI (cM K)) (show tp t z _ _ _ _ c 8 = _ from by rw [tp_n (by omega)]; exact hC.2.2.1) flX2_37 rfl (ly_c hc).1 rfl (by omega) dX2_readHeir_29 rfl ?_
      refine V_iconst 33 (1) rfl dX2_readHeir_32 rfl ?_
      refine V_isub 34 dX2_readHeir_33 rfl ?_
      refine V_callV (K' := 0) (S' := 0) 37 1 8 2 [.int 0, .int ((nI (cM K)) - 1)] mkX8_takeNumber lkX2_87 (by decide) rfl rfl (by decide) rfl (Nat.le_of_ble_eq_true rfl) (Nat.le_of_ble_eq_true rfl) (Nat.le_of_ble_eq_true rfl) (Nat.le_of_ble_eq_true rfl) rfl rfl dX2_readHeir_34 rfl (c_X8_takeNumber (lo := 0) (cnt := cM K) hRK hT (by decide) (hh_m1 (cM K) (by omega)) hp22 (fun e => absurd rfl e) (fun v34 p34 _ e34 => ?_) (fun k34 _ e34 => ?_))
      · refine Kq_i (k' := 0) (sl' := 0) rfl rfl ?_
        obtain ⟨-, -, lo34, hi34, -, -, lt34, hp34⟩ := pNum_ok e34
        refine V_istore 39 [(4, .int (nI v34)), (3, .int (nI v22)), (0, rf G c), (1, rf G 1), (2, .int (nI fl))] (by decide) rfl dX2_readHeir_37 rfl ?_
        refine V_aload_n 40 3 rfl _ rfl rfl dX2_readHeir_39 rfl ?_
        refine V_callV (K' := 0) (S' := 0) 43 1 8 0 [] mkX8_isFaulty lkX2_46 (by decide) rfl rfl (by decide) rfl (Nat.le_of_ble_eq_true rfl) (Nat.le_of_ble_eq_true rfl) (Nat.le_of_ble_eq_true rfl) (Nat.le_of_ble_eq_true rfl) rfl rfl dX2_readHeir_40 rfl (c_X8_isFaulty (fun _ => ?_) (fun e => absurd rfl e))
        refine Kq_i (k' := 0) (sl' := 0) rfl rfl ?_
        refine V_if_ne 54 46 rfl dX2_readHeir_43 rfl (fun c43 => absurd c43 (by decide)) (fun c43 => ?_)
        refine V_aload_n 47 2 rfl _ rfl rfl dX2_readHeir_46 rfl ?_
        refine V_getR 50 c 2 5 (c + 6) (rk_c5 hRK hc) flX2_27 rfl (ly_c hc).1 rfl (by omega) dX2_readHeir_47 rfl ?_
        refine V_iload_n 51 1 rfl rfl dX2_readHeir_50 rfl ?_
        refine V_iload 53 0 rfl dX2_readHeir_51 rfl ?_
        refine V_iastN 54 (c + 6) 6 v22 (by omega) (by decide) (ly_c hc).2.2.2.2.2.2 (by omega) dX2_readHeir_53 rfl ?_
        rw [tp_up (by omega)]
        refine V_ret_v rfl (Nat.le_of_ble_eq_true rfl) (fun h => absurd h (by decide)) (Nat.le_of_ble_eq_true rfl) (hk _ _ _ ((if_neg (fl0 hfl c1)).trans ((bd_ok e22).trans (bd_ok e34))) (CoastC_heir hC) (fun a ha => by rw [up2_n _ _ _ (by omega)]) hp34) dX2_readHeir_54
      · refine Kq_i (k' := 0) (sl' := 0) rfl rfl ?_
        have kk34 := pNum_k e34
        have kne34 := kd_ne kk34.1 kk34.2
        refine V_istore 39 [(4, .int 0), (3, .int (nI v22)), (0, rf G c), (1, rf G 1), (2, .int (nI fl))] (by decide) rfl dX2_readHeir_37 rfl ?_
        refine V_aload_n 40 3 rfl _ rfl rfl dX2_readHeir_39 rfl ?_
        refine V_callV (K' := 0) (S' := 0) 43 1 8 0 [] mkX8_isFaulty lkX2_46 (by decide) rfl rfl (by decide) rfl (Nat.le_of_ble_eq_true rfl) (Nat.le_of_ble_eq_true rfl) (Nat.le_of_ble_eq_true rfl) (Nat.le_of_ble_eq_true rfl) rfl rfl dX2_readHeir_40 rfl (c_X8_isFaulty (fun e => absurd e kne34) (fun _ => ?_))
        refine Kq_i (k' := 0) (sl' := 0) rfl rfl ?_
        refine V_if_ne 54 46 rfl dX2_readHeir_43 rfl (fun c43 => ?_) (fun c43 => absurd c43 (by decide))
        refine V_ret_v rfl (Nat.le_of_ble_eq_true rfl) (fun h => absurd h (by decide)) (Nat.le_of_ble_eq_true rfl) (hb _ _ _ _ ((if_neg (fl0 hfl c1)).trans ((bd_ok e22).trans (bd_no e34))) kk34.1 kk34.2 FrX.rf hp22) dX2_readHeir_54
    · refine Kq_i (k' := 0) (sl' := 0) rfl rfl ?_
      have kk22 := pNum_k e22
      have kne22 := kd_ne kk22.1 kk22.2
      refine V_istore_n 26 [(3, .int 0), (0, rf G c), (1, rf G 1), (2, .int (nI fl))] (by decide) rfl rfl dX2_readHeir_25 rfl ?_
      refine V_aload_n 27 2 rfl _ rfl rfl dX2_readHeir_26 rfl ?_
      refine V_iconst 28 (0) rfl dX2_readHeir_27 rfl ?_
      refine V_aload_n 29 1 rfl _ rfl rfl dX2_readHeir_28 rfl ?_
      refine V_getI 32 c 2 8 (nI (cM K)) (show tp t z _ _ _ _ c 8 = _ from by rw [tp_n (by omega)]; exact hC.2.2.1) flX2_37 rfl (ly_c hc).1 rfl (by omega) dX2_readHeir_29 rfl ?_
      refine V_iconst 33 (1) rfl dX2_readHeir_32 rfl ?_
      refine V_isub 34 dX2_readHeir_33 rfl ?_
      refine V_callV (K' := 0) (S' := 0) 37 1 8 2 [.int 0, .int ((nI (cM K)) - 1)] mkX8_takeNumber lkX2_87 (by decide) rfl rfl (by decide) rfl (Nat.le_of_ble_eq_true rfl) (Nat.le_of_ble_eq_true rfl) (Nat.le_of_ble_eq_true rfl) (Nat.le_of_ble_eq_true rfl) rfl rfl dX2_readHeir_34 rfl (c_X8_takeNumber (lo := 0) (cnt := cM K) hRK hT (by decide) (hh_m1 (cM K) (by omega)) (nx_z hp).2.1 (fun _ => ?_) (fun _ _ e _ => absurd e kne22) (fun _ e _ => absurd e kne22))
      refine Kq_i (k' := 0) (sl' := 0) rfl rfl ?_
      refine V_istore 39 [(4, .int 0), (3, .int 0), (0, rf G c), (1, rf G 1), (2, .int (nI fl))] (by decide) rfl dX2_readHeir_37 rfl ?_
      refine V_aload_n 40 3 rfl _ rfl rfl dX2_readHeir_39 rfl ?_
      refine V_callV (K' := 0) (S' := 0) 43 1 8 0 [] mkX8_isFaulty lkX2_46 (by decide) rfl rfl (by decide) rfl (Nat.le_of_ble_eq_true rfl) (Nat.le_of_ble_eq_true rfl) (Nat.le_of_ble_eq_true rfl) (Nat.le_of_ble_eq_true rfl) rfl rfl dX2_readHeir_40 rfl (c_X8_isFaulty (fun e => absurd e kne22) (fun _ => ?_))
      refine Kq_i (k' := 0) (sl' := 0) rfl rfl ?_
      refine V_if_ne 54 46 rfl dX2_readHeir_43 rfl (fun c43 => ?_) (fun c43 => absurd c43 (by decide))
      refine V_ret_v rfl (Nat.le_of_ble_eq_true rfl) (fun h => absurd h (by decide)) (Nat.le_of_ble_eq_true rfl) (hb _ _ _ _ ((if_neg (fl0 hfl c1)).trans (bd_no e22)) kk22.1 kk22.2 FrX.rf (nx_z hp).2.1) dX2_readHeir_54
  · refine V_aload_n 5 1 rfl _ rfl rfl dX2_readHeir_4 rfl ?_
    refine V_iconst 6 (3) rfl dX2_readHeir_5 rfl ?_
    refine V_callV (K' := 0) (S' := 0) 9 1 8 1 [.int 3] mkX8_fail lkX2_80 (by decide) rfl rfl (by decide) rfl (Nat.le_of_ble_eq_true rfl) (Nat.le_of_ble_eq_true rfl) (Nat.le_of_ble_eq_true rfl) (Nat.le_of_ble_eq_true rfl) rfl rfl dX2_readHeir_6 rfl (c_X8_fail (k := 3) hRK hT (fun e => absurd rfl e) (fun _ => ?_))
    refine Kq_v (k' := 0) (sl' := 0) rfl rfl ?_
    refine V_ret_v rfl (Nat.le_of_ble_eq_true rfl) (fun h => absurd h (by decide)) (Nat.le_of_ble_eq_true rfl) (hb 3 _ _ _ (if_pos (fl1 hfl c1)) (by decide) (by decide) FrX.rf hp) dX2_readHeir_9
set_option maxHeartbeats 8000000 in
theorem c_X2_readClause {G : Gx} {d : Nat} {I : FI} {R : FR} {J : FJ} {Q : Po} (hRK : RK R) {t : Nat → Nat} {z : Nat} (hT : TxC I t z) {c : Nat} (hc : c = 4 ∨ c = 51) {K : CO} (hC : CoastC I c K) (h8 : cH K ≤ 8) (hg6 : cG K ≤ 6) (h6 : cM K ≤ 6) {p : Nat} {fp : Int32} (hp : p ≤ z) {fl : Nat} (hfl : fl ≤ 1) (hk : ∀ K' p' I', pCl t z fl K p = .inr (K', p') → CoastC I' c K' → FrX I I' c → p' ≤ z → Q (.inl none) 103 (tp t z I' p' 0 fp) R J) (hb : ∀ k q p' I', pCl t z fl K p = .inl (k, q) → 0 < k → k ≤ 3 → FrX I I' c → p' ≤ z → Q (.inl none) 103 (tp t z I' p' (nI k) (nI q)) R J) : Cc G mX2_readClause (d + 1 + 1 + 1 + 1 + 1 + 1) 0 0 [rf G c, rf G 1, .int (nI fl)] 103 (tp t z I p 0 fp) R J Q := by
  show V _ _ _ _ _ _ _ _ [(0, rf G c), (1, rf G 1), (2, .int (nI fl))] [] _ _ _ _ _
  refine V_aload_n 1 1 rfl _ rfl rfl dX2_readClause_0 rfl ?_
  refine V_ldcS 3 1 rfl rfl dX2_readClause_1 rfl ?_
  refine V_callV (K' := 0) (S' := 0) 6 1 8 1 [sr G 1] mkX8_isWord lkX2_59 (by decide) rfl rfl (by decide) rfl (Nat.le_of_ble_eq_true rfl) (Nat.le_of_ble_eq_true rfl) (Nat.le_of_ble_eq_true rfl) (Nat.le_of_ble_eq_true rfl) rfl rfl dX2_readClause_3 rfl (c_X8_isWd hRK hT hp (wdo 1 (by decide) (by decide) (by decide)) (fun w3 => ?_) (fun w3 => ?_))
  · refine Kq_i (k' := 0) (sl' := 0) rfl rfl ?_
    refine V_if_eq 18 9 rfl dX2_readClause_6 rfl (fun c6 => absurd c6 (by decide)) (fun c6 => ?_)
    refine V_aload_n 10 0 rfl _ rfl rfl dX2_readClause_9 rfl ?_
    refine V_aload_n 11 1 rfl _ rfl rfl dX2_readClause_10 rfl ?_
    refine V_iload_n 12 2 rfl rfl dX2_readClause_11 rfl ?_
    refine V_callV (K' := 0) (S' := 0) 15 c 2 2 [rf G 1, .int (nI fl)] mkX2_readHat lkX2_63 (by decide) rfl (ly_c hc).1 (by omega) rfl (Nat.le_of_ble_eq_true rfl) (Nat.le_of_ble_eq_true rfl) (Nat.le_of_ble_eq_true rfl) (Nat.le_of_ble_eq_true rfl) rfl rfl dX2_readClause_12 rfl (c_X2_readHat hRK hT hc hC h8 hg6 h6 hp hfl (fun K1 p1 I1 e1 hC1 hx1 hp1 => ?_) (fun k q1 p1 I1 e1 hk1 hk3 hx1 hp1 => ?_))
    · refine Kq_v (k' := 0) (sl' := 0) rfl rfl ?_
      refine V_goto 77 rfl dX2_readClause_15 ?_
      refine V_ret_v rfl (Nat.le_of_ble_eq_true rfl) (fun h => absurd h (by decide)) (Nat.le_of_ble_eq_true rfl) (hk _ _ _ (((if_pos w3)).trans e1) hC1 hx1 hp1) dX2_readClause_77
    · refine Kq_v (k' := 0) (sl' := 0) rfl rfl ?_
      refine V_goto 77 rfl dX2_readClause_15 ?_
      refine V_ret_v rfl (Nat.le_of_ble_eq_true rfl) (fun h => absurd h (by decide)) (Nat.le_of_ble_eq_true rfl) (hb _ _ _ _ (((if_pos w3)).trans e1) hk1 hk3 hx1 hp1) dX2_readClause_77
  · refine Kq_i (k' := 0) (sl' := 0) rfl rfl ?_
    refine V_if_eq 18 9 rfl dX2_readClause_6 rfl (fun c6 => ?_) (fun c6 => absurd c6 (by decide))
    refine V_aload_n 19 1 rfl _ rfl rfl dX2_readClause_18 rfl ?_
    refine V_ldcS 21 2 rfl rfl dX2_readClause_19 rfl ?_
    refine V_callV (K' := 0) (S' := 0) 24 1 8 1 [sr G 2] mkX8_isWord lkX2_59 (by decide) rfl rfl (by decide) rfl (Nat.le_of_ble_eq_true rfl) (Nat.le_of_ble_eq_true rfl) (Nat.le_of_ble_eq_true rfl) (Nat.le_of_ble_eq_true rfl) rfl rfl dX2_readClause_21 rfl (c_X8_isWd hRK hT hp (wdo 2 (by decide) (by decide) (by decide)) (fun w21 => ?_) (fun w21 => ?_))
    · refine Kq_i (k' := 0) (sl' := 0) rfl rfl ?_
      refine V_if_eq 36 27 rfl dX2_readClause_24 rfl (fun c24 => absurd c24 (by decide)) (fun c24 => ?_)
      refine V_aload_n 28 0 rfl _ rfl rfl dX2_readClause_27 rfl ?_
      refine V_aload_n 29 1 rfl _ rfl rfl dX2_readClause_28 rfl ?_
      refine V_iload_n 30 2 rfl rfl dX2_readClause_29 rfl ?_
      refine V_callV (K' := 0) (S' := 0) 33 c 2 2 [rf G 1, .int (nI fl)] mkX2_readGround lkX2_68 (by decide) rfl (ly_c hc).1 (by omega) rfl (Nat.le_of_ble_eq_true rfl) (Nat.le_of_ble_eq_true rfl) (Nat.le_of_ble_eq_true rfl) (Nat.le_of_ble_eq_true rfl) rfl rfl dX2_readClause_30 rfl (c_X2_readGround hRK hT hc hC h8 hg6 h6 hp hfl (fun K1 p1 I1 e1 hC1 hx1 hp1 => ?_) (fun k q1 p1 I1 e1 hk1 hk3 hx1 hp1 => ?_))
      · refine Kq_v (k' := 0) (sl' := 0) rfl rfl ?_
        refine V_goto 77 rfl dX2_readClause_33 ?_
        refine V_ret_v rfl (Nat.le_of_ble_eq_true rfl) (fun h => absurd h (by decide)) (Nat.le_of_ble_eq_true rfl) (hk _ _ _ (((if_neg w3).trans (if_pos w21)).trans e1) hC1 hx1 hp1) dX2_readClause_77
      · refine Kq_v (k' := 0) (sl' := 0) rfl rfl ?_
        refine V_goto 77 rfl dX2_readClause_33 ?_
        refine V_ret_v rfl (Nat.le_of_ble_eq_true rfl) (fun h => absurd h (by decide)) (Nat.le_of_ble_eq_true rfl) (hb _ _ _ _ (((if_neg w3).trans (if_pos w21)).trans e1) hk1 hk3 hx1 hp1) dX2_readClause_77
    · refine Kq_i (k' := 0) (sl' := 0) rfl rfl ?_
      refine V_if_eq 36 27 rfl dX2_readClause_24 rfl (fun c24 => ?_) (fun c24 => absurd c24 (by decide))
      refine V_aload_n 37 1 rfl _ rfl rfl dX2_readClause_36 rfl ?_
      refine V_ldcS 39 3 rfl rfl dX2_readClause_37 rfl ?_
      refine V_callV (K' := 0) (S' := 0) 42 1 8 1 [sr G 3] mkX8_isWord lkX2_59 (by decide) rfl rfl (by decide) rfl (Nat.le_of_ble_eq_true rfl) (Nat.le_of_ble_eq_true rfl) (Nat.le_of_ble_eq_true rfl) (Nat.le_of_ble_eq_true rfl) rfl rfl dX2_readClause_39 rfl (c_X8_isWd hRK hT hp (wdo 3 (by decide) (by decide) (by decide)) (fun w39 => ?_) (fun w39 => ?_))
      · refine Kq_i (k' := 0) (sl' := 0) rfl rfl ?_
        refine V_if_eq 54 45 rfl dX2_readClause_42 rfl (fun c42 => absurd c42 (by decide)) (fun c42 => ?_)
        refine V_aload_n 46 0 rfl _ rfl rfl dX2_readClause_45 rfl ?_
        refine V_aload_n 47 1 rfl _ rfl rfl dX2_readClause_46 rfl ?_
        refine V_iload_n 48 2 rfl rfl dX2_readClause_47 rfl ?_
        refine V_callV (K' := 0) (S' := 0) 51 c 2 2 [rf G 1, .int (nI fl)] mkX2_readMan lkX2_73 (by decide) rfl (ly_c hc).1 (by omega) rfl (Nat.le_of_ble_eq_true rfl) (Nat.le_of_ble_eq_true rfl) (Nat.le_of_ble_eq_true rfl) (Nat.le_of_ble_eq_true rfl) rfl rfl dX2_readClause_48 rfl (c_X2_readMan hRK hT hc hC h8 hg6 h6 hp hfl (fun K1 p1 I1 e1 hC1 hx1 hp1 => ?_) (fun k q1 p1 I1 e1 hk1 hk3 hx1 hp1 => ?_))
        · refine Kq_v (k' := 0) (sl' := 0) rfl rfl ?_
          refine V_goto 77 rfl dX2_readClause_51 ?_
          refine V_ret_v rfl (Nat.le_of_ble_eq_true rfl) (fun h => absurd h (by decide)) (Nat.le_of_ble_eq_true rfl) (hk _ _ _ (((if_neg w3).trans ((if_neg w21).trans (if_pos w39))).trans e1) hC1 hx1 hp1) dX2_readClause_77
        · refine Kq_v (k' := 0) (sl' := 0) rfl rfl ?_
          refine V_goto 77 rfl dX2_readClause_51 ?_
          refine V_ret_v rfl (Nat.le_of_ble_eq_true rfl) (fun h => absurd h (by decide)) (Nat.le_of_ble_eq_true rfl) (hb _ _ _ _ (((if_neg w3).trans ((if_neg w21).trans (if_pos w39))).trans e1) hk1 hk3 hx1 hp1) dX2_readClause_77
      · refine Kq_i (k' := 0) (sl' := 0) rfl rfl ?_
        refine V_if_eq 54 45 rfl dX2_readClause_42 rfl (fun c42 => ?_) (fun c42 => absurd c42 (by decide))
        refine V_aload_n 55 1 rfl _ rfl rfl dX2_readClause_54 rfl ?_
        refine V_ldcS 57 4 rfl rfl dX2_readClause_55 rfl ?_
        refine V_callV (K' := 0) (S' := 0) 60 1 8 1 [sr G 4] mkX8_isWord lkX2_59 (by decide) rfl rfl (by decide) rfl (Nat.le_of_ble_eq_true rfl) (Nat.le_of_ble_eq_true rfl) (Nat.le_of_ble_eq_true rfl) (Nat.le_of_ble_eq_true rfl) rfl rfl dX2_readClause_57 rfl (c_X8_isWd hRK hT hp (wdo 4 (by decide) (by decide) (by decide)) (fun w57 => ?_) (fun w57 => ?_))
        · refine Kq_i (k' := 0) (sl' := 0) rfl rfl ?_
          refine V_if_eq 72 63 rfl dX2_readClause_60 rfl (fun c60 => absurd c60 (by decide)) (fun c60 => ?_)
          refine V_aload_n 64 0 rfl _ rfl rfl dX2_readClause_63 rfl ?_
          refine V_aload_n 65 1 rfl _ rfl rfl dX2_readClause_64 rfl ?_
          refine V_iload_n 66 2 rfl rfl dX2_readClause_65 rfl ?_
          refine V_callV (K' := 0) (S' := 0) 69 c 2 2 [rf G 1, .int (nI fl)] mkX2_readHeir lkX2_77 (by decide) rfl (ly_c hc).1 (by omega) rfl (Nat.le_of_ble_eq_true rfl) (Nat.le_of_ble_eq_true rfl) (Nat.le_of_ble_eq_true rfl) (Nat.le_of_ble_eq_true rfl) rfl rfl dX2_readClause_66 rfl (c_X2_readHeir hRK hT hc hC h8 hg6 h6 hp hfl (fun K1 p1 I1 e1 hC1 hx1 hp1 => ?_) (fun k q1 p1 I1 e1 hk1 hk3 hx1 hp1 => ?_))
          · refine Kq_v (k' := 0) (sl' := 0) rfl rfl ?_
            refine V_goto 77 rfl dX2_readClause_69 ?_
            refine V_ret_v rfl (Nat.le_of_ble_eq_true rfl) (fun h => absurd h (by decide)) (Nat.le_of_ble_eq_true rfl) (hk _ _ _ (((if_neg w3).trans ((if_neg w21).trans ((if_neg w39).trans (if_pos w57)))).trans e1) hC1 hx1 hp1) dX2_readClause_77
          · refine Kq_v (k' := 0) (sl' := 0) rfl rfl ?_
            refine V_goto 77 rfl dX2_readClause_69 ?_
            refine V_ret_v rfl (Nat.le_of_ble_eq_true rfl) (fun h => absurd h (by decide)) (Nat.le_of_ble_eq_true rfl) (hb _ _ _ _ (((if_neg w3).trans ((if_neg w21).trans ((if_neg w39).trans (if_pos w57)))).trans e1) hk1 hk3 hx1 hp1) dX2_readClause_77
        · refine Kq_i (k' := 0) (sl' := 0) rfl rfl ?_
          refine V_if_eq 72 63 rfl dX2_readClause_60 rfl (fun c60 => ?_) (fun c60 => absurd c60 (by decide))
          refine V_aload_n 73 1 rfl _ rfl rfl dX2_readClause_72 rfl ?_
          refine V_iconst 74 (1) rfl dX2_readClause_73 rfl ?_
          refine V_callV (K' := 0) (S' := 0) 77 1 8 1 [.int 1] mkX8_fail lkX2_80 (by decide) rfl rfl (by decide) rfl (Nat.le_of_ble_eq_true rfl) (Nat.le_of_ble_eq_true rfl) (Nat.le_of_ble_eq_true rfl) (Nat.le_of_ble_eq_true rfl) rfl rfl dX2_readClause_74 rfl (c_X8_fail (k := 1) hRK hT (fun e => absurd rfl e) (fun _ => ?_))
          refine Kq_v (k' := 0) (sl' := 0) rfl rfl ?_
          refine V_ret_v rfl (Nat.le_of_ble_eq_true rfl) (fun h => absurd h (by decide)) (Nat.le_of_ble_eq_true rfl) (hb 1 _ _ _ ((if_neg w3).trans ((if_neg w21).trans ((if_neg w39).trans (if_neg w57)))) (by decide) (by decide) FrX.rf hp) dX2_readClause_77
/-- the bounds, clause by clause -/
def WKp (K : CO) : Prop := WK K ∧ ∀ m, cM K ≤ m → cHr K m = none
theorem pHat_W {t : Nat → Nat} {z fl : Nat} {K K' : CO} {p p' : Nat} (h : WKp K) (e : pHat t z fl K p = .inr (K', p')) : WKp K' ∧ fl ≠ 1 := by
  unfold pHat at e
  by_cases c : fl = 1 ∨ 8 ≤ cH K
  · rw [if_pos c] at e; cases e
  rw [if_neg c] at e
  cases e1 : pNum t z 1 13 (nx t z p) with
  | inl x => rw [bd_no e1] at e; cases e
  | inr x =>
    rw [bd_ok e1] at e
    cases e2 : pNum t z 0 8 x.2 with
    | inl y => rw [bd_no e2] at e; cases e
    | inr y =>
      rw [bd_ok e2] at e
      cases e
      obtain ⟨-, -, a1, a2, -⟩ := pNum_ok (show pNum t z 1 13 (nx t z p) = .inr (x.1, x.2) from e1)
      obtain ⟨-, -, b1, b2, -⟩ := pNum_ok (show pNum t z 0 8 x.2 = .inr (y.1, y.2) from e2)
      obtain ⟨⟨w1, w2, w3, w4, w5, w6, w7⟩, w8⟩ := h
      refine ⟨⟨⟨by show cH K + 1 ≤ 8; omega, w2, w3, w4, fun h hh => ?_, w6, w7⟩, w8⟩, fun q => c (Or.inl q)⟩
      show ∃ a s, 1 ≤ a ∧ a ≤ 12 ∧ s < 8 ∧ upd (upd (cHat K) (2 * cH K) (nI x.1)) (2 * cH K + 1) (nI y.1) (2 * h) = nI a ∧ upd (upd (cHat K) (2 * cH K) (nI x.1)) (2 * cH K + 1) (nI y.1) (2 * h + 1) = nI s
      have hh : h < cH K + 1 := hh
      by_cases q : h = cH K
      · subst q; exact ⟨x.1, y.1, a1, by omega, b2, by rw [upd_n (by omega), upd_s], upd_s⟩
      · obtain ⟨a, s, r1, r2, r3, r4, r5⟩ := w5 h (by omega)
        exact ⟨a, s, r1, r2, r3, by rw [upd_n (by omega), upd_n (by omega)]; exact r4, by rw [upd_n (by omega), upd_n (by omega)]; exact r5⟩
theorem pGround_W {t : Nat → Nat} {z fl : Nat} {K K' : CO} {p p' : Nat} (h : WKp K) (e : pGround t z fl K p = .inr (K', p')) : WKp K' ∧ fl ≠ 1 := by
  unfold pGround at e
  by_cases c : fl = 1 ∨ 6 ≤ cG K
  · rw [if_pos c] at e; cases e
  rw [if_neg c] at e
  cases e1 : pNum t z 0 1000 (nx t z p) with
  | inl x => rw [bd_no e1] at e; cases e
  | inr x =>
    rw [bd_ok e1] at e
    cases e2 : pNum t z 0 8 x.2 with
    | inl y => rw [bd_no e2] at e; cases e
    | inr y =>
      rw [bd_ok e2] at e
      cases e
      obtain ⟨-, -, a1, a2, -⟩ := pNum_ok (show pNum t z 0 1000 (nx t z p) = .inr (x.1, x.2) from e1)
      obtain ⟨-, -, b1, b2, -⟩ := pNum_ok (show pNum t z 0 8 x.2 = .inr (y.1, y.2) from e2)
      obtain ⟨⟨w1, w2, w3, w4, w5, w6, w7⟩, w8⟩ := h
      refine ⟨⟨⟨w1, by show cG K + 1 ≤ 6; omega, w3, w4, w5, fun h hh => ?_, w7⟩, w8⟩, fun q => c (Or.inl q)⟩
      show ∃ a s, a ≤ 999 ∧ s < 8 ∧ upd (upd (cGr K) (2 * cG K) (nI x.1)) (2 * cG K + 1) (nI y.1) (2 * h) = nI a ∧ upd (upd (cGr K) (2 * cG K) (nI x.1)) (2 * cG K + 1) (nI y.1) (2 * h + 1) = nI s
      have hh : h < cG K + 1 := hh
      by_cases q : h = cG K
      · subst q; exact ⟨x.1, y.1, by omega, b2, by rw [upd_n (by omega), upd_s], upd_s⟩
      · obtain ⟨a, s, r2, r3, r4, r5⟩ := w6 h (by omega)
        exact ⟨a, s, r2, r3, by rw [upd_n (by omega), upd_n (by omega)]; exact r4, by rw [upd_n (by omega), upd_n (by omega)]; exact r5⟩
theorem pMan_W {t : Nat → Nat} {z fl : Nat} {K K' : CO} {p p' : Nat} (h : WKp K) (e : pMan t z fl K p = .inr (K', p')) : WKp K' ∧ fl ≠ 1 := by
  unfold pMan at e
  by_cases c : fl = 1 ∨ 6 ≤ cM K
  · rw [if_pos c] at e; cases e
  rw [if_neg c] at e
  cases e1 : pNum t z 1 100 (nx t z p) with
  | inl x => rw [bd_no e1] at e; cases e
  | inr x =>
    rw [bd_ok e1] at e
    cases e
    obtain ⟨-, -, a1, a2, -⟩ := pNum_ok (show pNum t z 1 100 (nx t z p) = .inr (x.1, x.2) from e1)
    obtain ⟨⟨w1, w2, w3, w4, w5, w6, w7⟩, w8⟩ := h
    refine ⟨⟨⟨w1, w2, by show cM K + 1 ≤ 6; omega, fun m j q => ?_, w5, w6, fun m hm => ?_⟩, fun m hm => ?_⟩, fun q => c (Or.inl q)⟩
    · have q : (if m = cM K then none else cHr K m) = some j := q
      show j < cM K + 1
      split at q
      · cases q
      · have := w4 m j q; omega
    · show ∃ b, 1 ≤ b ∧ b ≤ 99 ∧ upd (cBt K) (cM K) (nI x.1) m = nI b
      have hm : m < cM K + 1 := hm
      by_cases q : m = cM K
      · subst q; exact ⟨x.1, a1, by omega, upd_s⟩
      · obtain ⟨b, r1, r2, r3⟩ := w7 m (by omega)
        exact ⟨b, r1, r2, by rw [upd_n q]; exact r3⟩
    · show (if m = cM K then none else cHr K m) = none
      have hm : cM K + 1 ≤ m := hm
      rw [if_neg (by omega)]
      exact w8 m (by omega)
theorem pHeir_W {t : Nat → Nat} {z fl : Nat} {K K' : CO} {p p' : Nat} (h : WKp K) (e : pHeir t z fl K p = .inr (K', p')) : WKp K' ∧ fl ≠ 1 := by
  unfold pHeir at e
  by_cases c : fl = 1
  · rw [if_pos c] at e; cases e
  rw [if_neg c] at e
  cases e1 : pNum t z 0 (cM K) (nx t z p) with
  | inl x => rw [bd_no e1] at e; cases e
  | inr x =>
    rw [bd_ok e1] at e
    cases e2 : pNum t z 0 (cM K) x.2 with
    | inl y => rw [bd_no e2] at e; cases e
    | inr y =>
      rw [bd_ok e2] at e
      cases e
      obtain ⟨-, -, a1, a2, -⟩ := pNum_ok (show pNum t z 0 (cM K) (nx t z p) = .inr (x.1, x.2) from e1)
      obtain ⟨-, -, b1, b2, -⟩ := pNum_ok (show pNum t z 0 (cM K) x.2 = .inr (y.1, y.2) from e2)
      obtain ⟨⟨w1, w2, w3, w4, w5, w6, w7⟩, w8⟩ := h
      refine ⟨⟨⟨w1, w2, w3, fun m j q => ?_, w5, w6, w7⟩, fun m hm => ?_⟩, c⟩
      · have q : (if m = x.1 then some y.1 else cHr K m) = some j := q
        split at q
        · cases q; exact b2
        · exact w4 m j q
      · show (if m = x.1 then some y.1 else cHr K m) = none
        have hm : cM K ≤ m := hm
        rw [if_neg (by omega)]
        exact w8 m hm
theorem pCl_W {t : Nat → Nat} {z fl : Nat} {K K' : CO} {p p' : Nat} (h : WKp K) (e : pCl t z fl K p = .inr (K', p')) : WKp K' ∧ fl ≠ 1 := by
  unfold pCl at e
  split at e
  · exact pHat_W h e
  · split at e
    · exact pGround_W h e
    · split at e
      · exact pMan_W h e
      · split at e
        · exact pHeir_W h e
        · cases e
theorem K0_W : WKp K0 := ⟨⟨by decide, by decide, by decide, fun m j e => (by cases e), fun h hh => absurd hh (Nat.not_lt_zero h), fun h hh => absurd hh (Nat.not_lt_zero h), fun h hh => absurd hh (Nat.not_lt_zero h)⟩, fun _ _ => rfl⟩
theorem pCo_W {t : Nat → Nat} {z : Nat} : ∀ f n K K' p, WKp K → pCo t z f n K p = .inr K' → WKp K' := by
  intro f
  induction f with
  | zero => intro n K K' p _ e; cases e
  | succ f ih =>
    intro n K K' p h e
    rw [pCo] at e
    split at e
    · cases e; exact h
    · cases e1 : pCl t z (if n < 60 then 0 else 1) K p with
      | inl x => rw [bd_no (pCs_n1 e1)] at e; cases e
      | inr x =>
        cases e2 : pSig t z 59 x.2 with
        | inl y => rw [bd_no (pCs_n2 (K' := x.1) (p1 := x.2) e1 e2)] at e; cases e
        | inr y =>
          rw [bd_ok (pCs_ok (K' := x.1) (p1 := x.2) e1 e2)] at e
          exact ih _ _ _ _ (pCl_W (K' := x.1) (p' := x.2) h e1).1 e
theorem coF_W {t : Nat → Nat} {z : Nat} {K : CO} (e : coF t z = .inr K) : WK K := (pCo_W 61 0 K0 K _ K0_W e).1
set_option maxHeartbeats 8000000 in
theorem c_X2_readText {G : Gx} {d : Nat} {I : FI} {R : FR} {J : FJ} {Q : Po} (hRK : RK R) {t : Nat → Nat} {z : Nat} (hT : TxC I t z) {c : Nat} (hc : c = 4 ∨ c = 51) {fp : Int32} (hk : ∀ K' p' I', coF t z = .inr K' → CoastC I' c K' → FrX I I' c → p' ≤ z → Q (.inl (some (.int 1))) 103 (tp t z I' p' 0 fp) R J) (hb : ∀ k q p' I', coF t z = .inl (k, q) → 0 < k → k ≤ 3 → FrX I I' c → p' ≤ z → Q (.inl (some (.int 0))) 103 (tp t z I' p' (nI k) (nI q)) R J) : Cc G mX2_readText (d + 1 + 1 + 1 + 1 + 1 + 1 + 1) 0 0 [rf G c, rf G 1] 103 (tp t z I (sk t z 0) 0 fp) R J Q := by
  have L : ∀ f n K p I1, f + n = 61 → n ≤ 60 → p ≤ z → CoastC I1 c K → WKp K → FrX I I1 c → coF t z = pCo t z f n K p → V G mX2_readText (d + 1 + 1 + 1 + 1 + 1 + 1 + 1) 0 0 0 0 17 [(2, .int (nI n)), (0, rf G c), (1, rf G 1)] [] 103 (tp t z I1 p 0 fp) R J Q := by
    intro f
    induction f with
    | zero => intro n K p I1 h1 h2; omega
    | succ f ih =>
      intro n K p I1 hfn hn hp hC hWp hx eq
      have hT1 := hx.T hc hT
      rw [pCo] at eq
      by_cases cz : z ≤ p
      · refine V_iload_n 18 0 rfl rfl dX2_readText_17 rfl ?_
        refine V_bipush 20 (60) rfl dX2_readText_18 rfl ?_
        refine V_icmp_gt 65 23 rfl dX2_readText_20 rfl (fun c20 => absurd c20 (nI_nlt (a := 60) hn (by decide))) (fun c20 => ?_)
        refine V_aload_n 24 2 rfl _ rfl rfl dX2_readText_23 rfl ?_
        refine V_callV (K' := 0) (S' := 0) 27 1 8 0 [] mkX8_isAtEnd lkX2_40 (by decide) rfl rfl (by decide) rfl (Nat.le_of_ble_eq_true rfl) (Nat.le_of_ble_eq_true rfl) (Nat.le_of_ble_eq_true rfl) (Nat.le_of_ble_eq_true rfl) rfl rfl dX2_readText_24 rfl (c_X8_isAtEnd hRK hT1 (fun _ => ?_) (fun q => absurd q (by omega)))
        refine Kq_i (k' := 0) (sl' := 0) rfl rfl ?_
        refine V_if_ne 65 30 rfl dX2_readText_27 rfl (fun c27 => ?_) (fun c27 => absurd c27 (by decide))
        refine V_aload_n 66 2 rfl _ rfl rfl dX2_readText_65 rfl ?_
        refine V_callV (K' := 0) (S' := 0) 69 1 8 0 [] mkX8_isFaulty lkX2_46 (by decide) rfl rfl (by decide) rfl (Nat.le_of_ble_eq_true rfl) (Nat.le_of_ble_eq_true rfl) (Nat.le_of_ble_eq_true rfl) (Nat.le_of_ble_eq_true rfl) rfl rfl dX2_readText_66 rfl (c_X8_isFaulty (fun _ => ?_) (fun e => absurd rfl e))
        refine Kq_i (k' := 0) (sl' := 0) rfl rfl ?_
        refine V_if_ne 76 72 rfl dX2_readText_69 rfl (fun c69 => absurd c69 (by decide)) (fun c69 => ?_)
        refine V_iconst 73 (1) rfl dX2_readText_72 rfl ?_
        refine V_goto 77 rfl dX2_readText_73 ?_
        refine V_ret_i rfl (by first | rfl | decide) (Nat.le_of_ble_eq_true rfl) (fun h => absurd h (by decide)) (Nat.le_of_ble_eq_true rfl) (hk _ _ _ (eq.trans (if_pos cz)) hC hx hp) dX2_readText_77
      · rw [if_neg cz] at eq
        have exit : ∀ (n' : Int32) p1 I2 k q, 0 < k → k ≤ 3 → FrX I I2 c → p1 ≤ z → coF t z = .inl (k, q) → V G mX2_readText (d + 1 + 1 + 1 + 1 + 1 + 1 + 1) 0 0 0 0 17 [(2, .int n'), (0, rf G c), (1, rf G 1)] [] 103 (tp t z I2 p1 (nI k) (nI q)) R J Q := by
          intro n' p1 I2 k q hk1 hk3 hx2 hp1 e2
          have hT2 := hx2.T hc hT
          have kn := kd_ne hk1 hk3
          refine V_iload_n 18 0 rfl rfl dX2_readText_17 rfl ?_
          refine V_bipush 20 (60) rfl dX2_readText_18 rfl ?_
          refine V_icmp_gt 65 23 rfl dX2_readText_20 rfl (fun c20 => ?_) (fun c20 => ?_)
          · refine V_aload_n 66 2 rfl _ rfl rfl dX2_readText_65 rfl ?_
            refine V_callV (K' := 0) (S' := 0) 69 1 8 0 [] mkX8_isFaulty lkX2_46 (by decide) rfl rfl (by decide) rfl (Nat.le_of_ble_eq_true rfl) (Nat.le_of_ble_eq_true rfl) (Nat.le_of_ble_eq_true rfl) (Nat.le_of_ble_eq_true rfl) rfl rfl dX2_readText_66 rfl (c_X8_isFaulty (fun e => absurd e kn) (fun _ => ?_))
            refine Kq_i (k' := 0) (sl' := 0) rfl rfl ?_
            refine V_if_ne 76 72 rfl dX2_readText_69 rfl (fun c69 => ?_) (fun c69 => absurd c69 (by decide))
            refine V_iconst 77 (0) rfl dX2_readText_76 rfl ?_
            refine V_ret_i rfl (by first | rfl | decide) (Nat.le_of_ble_eq_true rfl) (fun h => absurd h (by decide)) (Nat.le_of_ble_eq_true rfl) (hb _ _ _ _ e2 hk1 hk3 hx2 hp1) dX2_readText_77
          · refine V_aload_n 24 2 rfl _ rfl rfl dX2_readText_23 rfl ?_
            refine V_callV (K' := 0) (S' := 0) 27 1 8 0 [] mkX8_isAtEnd lkX2_40 (by decide) rfl rfl (by decide) rfl (Nat.le_of_ble_eq_true rfl) (Nat.le_of_ble_eq_true rfl) (Nat.le_of_ble_eq_true rfl) (Nat.le_of_ble_eq_true rfl) rfl rfl dX2_readText_24 rfl (c_X8_isAtEnd hRK hT2 (fun z24 => ?_) (fun z24 => ?_))
            · refine Kq_i (k' := 0) (sl' := 0) rfl rfl ?_
              refine V_if_ne 65 30 rfl dX2_readText_27 rfl (fun c27 => ?_) (fun c27 => absurd c27 (by decide))
              refine V_aload_n 66 2 rfl _ rfl rfl dX2_readText_65 rfl ?_
              refine V_callV (K' := 0) (S' := 0) 69 1 8 0 [] mkX8_isFaulty lkX2_46 (by decide) rfl rfl (by decide) rfl (Nat.le_of_ble_eq_true rfl) (Nat.le_of_ble_eq_true rfl) (Nat.le_of_ble_eq_true rfl) (Nat.le_of_ble_eq_true rfl) rfl rfl dX2_readText_66 rfl (c_X8_isFaulty (fun e => absurd e kn) (fun _ => ?_))
              refine Kq_i (k' := 0) (sl' := 0) rfl rfl ?_
              refine V_if_ne 76 72 rfl dX2_readText_69 rfl (fun c69 => ?_) (fun c69 => absurd c69 (by decide))
              refine V_iconst 77 (0) rfl dX2_readText_76 rfl ?_
              refine V_ret_i rfl (by first | rfl | decide) (Nat.le_of_ble_eq_true rfl) (fun h => absurd h (by decide)) (Nat.le_of_ble_eq_true rfl) (hb _ _ _ _ e2 hk1 hk3 hx2 hp1) dX2_readText_77
            · refine Kq_i (k' := 0) (sl' := 0) rfl rfl ?_
              refine V_if_ne 65 30 rfl dX2_readText_27 rfl (fun c27 => absurd c27 (by decide)) (fun c27 => ?_)
              refine V_aload_n 31 2 rfl _ rfl rfl dX2_readText_30 rfl ?_
              refine V_callV (K' := 0) (S' := 0) 34 1 8 0 [] mkX8_isFaulty lkX2_46 (by decide) rfl rfl (by decide) rfl (Nat.le_of_ble_eq_true rfl) (Nat.le_of_ble_eq_true rfl) (Nat.le_of_ble_eq_true rfl) (Nat.le_of_ble_eq_true rfl) rfl rfl dX2_readText_31 rfl (c_X8_isFaulty (fun e => absurd e kn) (fun _ => ?_))
              refine Kq_i (k' := 0) (sl' := 0) rfl rfl ?_
              refine V_if_ne 65 37 rfl dX2_readText_34 rfl (fun c34 => ?_) (fun c34 => absurd c34 (by decide))
              refine V_aload_n 66 2 rfl _ rfl rfl dX2_readText_65 rfl ?_
              refine V_callV (K' := 0) (S' := 0) 69 1 8 0 [] mkX8_isFaulty lkX2_46 (by decide) rfl rfl (by decide) rfl (Nat.le_of_ble_eq_true rfl) (Nat.le_of_ble_eq_true rfl) (Nat.le_of_ble_eq_true rfl) (Nat.le_of_ble_eq_true rfl) rfl rfl dX2_readText_66 rfl (c_X8_isFaulty (fun e => absurd e kn) (fun _ => ?_))
              refine Kq_i (k' := 0) (sl' := 0) rfl rfl ?_
              refine V_if_ne 76 72 rfl dX2_readText_69 rfl (fun c69 => ?_) (fun c69 => absurd c69 (by decide))
              refine V_iconst 77 (0) rfl dX2_readText_76 rfl ?_
              refine V_ret_i rfl (by first | rfl | decide) (Nat.le_of_ble_eq_true rfl) (fun h => absurd h (by decide)) (Nat.le_of_ble_eq_true rfl) (hb _ _ _ _ e2 hk1 hk3 hx2 hp1) dX2_readText_77
        by_cases c60 : n < 60
        · rw [if_pos c60] at eq
          refine V_iload_n 18 0 rfl rfl dX2_readText_17 rfl ?_
          refine V_bipush 20 (60) rfl dX2_readText_18 rfl ?_
          refine V_icmp_gt 65 23 rfl dX2_readText_20 rfl (fun c20 => absurd c20 (nI_nlt (a := 60) hn (by decide))) (fun c20 => ?_)
          refine V_aload_n 24 2 rfl _ rfl rfl dX2_readText_23 rfl ?_
          refine V_callV (K' := 0) (S' := 0) 27 1 8 0 [] mkX8_isAtEnd lkX2_40 (by decide) rfl rfl (by decide) rfl (Nat.le_of_ble_eq_true rfl) (Nat.le_of_ble_eq_true rfl) (Nat.le_of_ble_eq_true rfl) (Nat.le_of_ble_eq_true rfl) rfl rfl dX2_readText_24 rfl (c_X8_isAtEnd hRK hT1 (fun q => absurd q cz) (fun _ => ?_))
          refine Kq_i (k' := 0) (sl' := 0) rfl rfl ?_
          refine V_if_ne 65 30 rfl dX2_readText_27 rfl (fun c27 => absurd c27 (by decide)) (fun c27 => ?_)
          refine V_aload_n 31 2 rfl _ rfl rfl dX2_readText_30 rfl ?_
          refine V_callV (K' := 0) (S' := 0) 34 1 8 0 [] mkX8_isFaulty lkX2_46 (by decide) rfl rfl (by decide) rfl (Nat.le_of_ble_eq_true rfl) (Nat.le_of_ble_eq_true rfl) (Nat.le_of_ble_eq_true rfl) (Nat.le_of_ble_eq_true rfl) rfl rfl dX2_readText_31 rfl (c_X8_isFaulty (fun _ => ?_) (fun e => absurd rfl e))
          refine Kq_i (k' := 0) (sl' := 0) rfl rfl ?_
          refine V_if_ne 65 37 rfl dX2_readText_34 rfl (fun c34 => absurd c34 (by decide)) (fun c34 => ?_)
          refine V_aload_n 38 1 rfl _ rfl rfl dX2_readText_37 rfl ?_
          refine V_aload_n 39 2 rfl _ rfl rfl dX2_readText_38 rfl ?_
          refine V_iload_n 40 0 rfl rfl dX2_readText_39 rfl ?_
          refine V_bipush 42 (60) rfl dX2_readText_40 rfl ?_
          refine V_icmp_lt 49 45 rfl dX2_readText_42 rfl (fun c42 => ?_) (fun c42 => absurd (nI_lt (b := 60) c60 (by decide)) c42)
          refine V_iconst 50 (0) rfl dX2_readText_49 rfl ?_
          refine V_callV (K' := 0) (S' := 0) 53 c 2 2 [rf G 1, .int 0] mkX2_readClause lkX2_49 (by decide) rfl (ly_c hc).1 (by omega) rfl (Nat.le_of_ble_eq_true rfl) (Nat.le_of_ble_eq_true rfl) (Nat.le_of_ble_eq_true rfl) (Nat.le_of_ble_eq_true rfl) rfl rfl dX2_readText_50 rfl (c_X2_readClause (fl := 0) hRK hT1 hc hC hWp.1.1 hWp.1.2.1 hWp.1.2.2.1 hp (by decide) (fun K2 p2 I2 e2 hC2 hx2 hp2 => ?_) (fun k2 q2 p2 I2 e2 hk2 hk3 hx2 hp2 => ?_))
          · refine Kq_v (k' := 0) (sl' := 0) rfl rfl ?_
            have hT2 := (hx.tr hx2).T hc hT
            refine V_aload_n 54 2 rfl _ rfl rfl dX2_readText_53 rfl ?_
            refine V_bipush 56 (59) rfl dX2_readText_54 rfl ?_
            refine V_callV (K' := 0) (S' := 0) 59 1 8 1 [.int 59] mkX8_takeSign lkX2_53 (by decide) rfl rfl (by decide) rfl (Nat.le_of_ble_eq_true rfl) (Nat.le_of_ble_eq_true rfl) (Nat.le_of_ble_eq_true rfl) (Nat.le_of_ble_eq_true rfl) rfl rfl dX2_readText_56 rfl (c_X8_takeSign (c := 59) hRK hT2 (by decide) (by decide) (by decide) hp2 (fun e => absurd rfl e) (fun p56 _ e56 => ?_) (fun _ e56 => ?_))
            · refine Kq_v (k' := 0) (sl' := 0) rfl rfl ?_
              obtain ⟨-, -, -, lt56, hp56⟩ := pSig_ok e56
              refine V_iinc 62 0 rfl (nI (n + 1)) [(2, .int (nI (n + 1))), (0, rf G c), (1, rf G 1)] (nI_1 _) (by decide) rfl dX2_readText_59 rfl ?_
              refine V_goto 17 rfl dX2_readText_62 ?_
              exact V_lv [0, 1, 2] rfl (ih (n + 1) K2 p56 I2 (by omega) (by first | exact absurd rfl (pCl_W hWp e2).2 | omega) hp56 hC2 (pCl_W hWp e2).1 (hx.tr hx2) (eq.trans (bd_ok (pCs_ok e2 e56))))
            · refine Kq_v (k' := 0) (sl' := 0) rfl rfl ?_
              refine V_iinc 62 0 rfl (nI (n + 1)) [(2, .int (nI (n + 1))), (0, rf G c), (1, rf G 1)] (nI_1 _) (by decide) rfl dX2_readText_59 rfl ?_
              refine V_goto 17 rfl dX2_readText_62 ?_
              exact V_lv [0, 1, 2] rfl (exit _ p2 I2 1 p2 (by decide) (by decide) (hx.tr hx2) hp2 (eq.trans (bd_no (pCs_n2 e2 e56))))
          · refine Kq_v (k' := 0) (sl' := 0) rfl rfl ?_
            have hT2 := (hx.tr hx2).T hc hT
            have kn2 := kd_ne hk2 hk3
            refine V_aload_n 54 2 rfl _ rfl rfl dX2_readText_53 rfl ?_
            refine V_bipush 56 (59) rfl dX2_readText_54 rfl ?_
            refine V_callV (K' := 0) (S' := 0) 59 1 8 1 [.int 59] mkX8_takeSign lkX2_53 (by decide) rfl rfl (by decide) rfl (Nat.le_of_ble_eq_true rfl) (Nat.le_of_ble_eq_true rfl) (Nat.le_of_ble_eq_true rfl) (Nat.le_of_ble_eq_true rfl) rfl rfl dX2_readText_56 rfl (c_X8_takeSign (c := 59) hRK hT2 (by decide) (by decide) (by decide) hp2 (fun _ => ?_) (fun _ e _ => absurd e kn2) (fun e _ => absurd e kn2))
            refine Kq_v (k' := 0) (sl' := 0) rfl rfl ?_
            refine V_iinc 62 0 rfl (nI (n + 1)) [(2, .int (nI (n + 1))), (0, rf G c), (1, rf G 1)] (nI_1 _) (by decide) rfl dX2_readText_59 rfl ?_
            refine V_goto 17 rfl dX2_readText_62 ?_
            exact V_lv [0, 1, 2] rfl (exit _ p2 I2 k2 q2 hk2 hk3 (hx.tr hx2) hp2 (eq.trans (bd_no (pCs_n1 e2))))
        · rw [if_neg c60] at eq
          refine V_iload_n 18 0 rfl rfl dX2_readText_17 rfl ?_
          refine V_bipush 20 (60) rfl dX2_readText_18 rfl ?_
          refine V_icmp_gt 65 23 rfl dX2_readText_20 rfl (fun c20 => absurd c20 (nI_nlt (a := 60) hn (by decide))) (fun c20 => ?_)
          refine V_aload_n 24 2 rfl _ rfl rfl dX2_readText_23 rfl ?_
          refine V_callV (K' := 0) (S' := 0) 27 1 8 0 [] mkX8_isAtEnd lkX2_40 (by decide) rfl rfl (by decide) rfl (Nat.le_of_ble_eq_true rfl) (Nat.le_of_ble_eq_true rfl) (Nat.le_of_ble_eq_true rfl) (Nat.le_of_ble_eq_true rfl) rfl rfl dX2_readText_24 rfl (c_X8_isAtEnd hRK hT1 (fun q => absurd q cz) (fun _ => ?_))
          refine Kq_i (k' := 0) (sl' := 0) rfl rfl ?_
          refine V_if_ne 65 30 rfl dX2_readText_27 rfl (fun c27 => absurd c27 (by decide)) (fun c27 => ?_)
          refine V_aload_n 31 2 rfl _ rfl rfl dX2_readText_30 rfl ?_
          refine V_callV (K' := 0) (S' := 0) 34 1 8 0 [] mkX8_isFaulty lkX2_46 (by decide) rfl rfl (by decide) rfl (Nat.le_of_ble_eq_true rfl) (Nat.le_of_ble_eq_true rfl) (Nat.le_of_ble_eq_true rfl) (Nat.le_of_ble_eq_true rfl) rfl rfl dX2_readText_31 rfl (c_X8_isFaulty (fun _ => ?_) (fun e => absurd rfl e))
          refine Kq_i (k' := 0) (sl' := 0) rfl rfl ?_
          refine V_if_ne 65 37 rfl dX2_readText_34 rfl (fun c34 => absurd c34 (by decide)) (fun c34 => ?_)
          refine V_aload_n 38 1 rfl _ rfl rfl dX2_readText_37 rfl ?_
          refine V_aload_n 39 2 rfl _ rfl rfl dX2_readText_38 rfl ?_
          refine V_iload_n 40 0 rfl rfl dX2_readText_39 rfl ?_
          refine V_bipush 42 (60) rfl dX2_readText_40 rfl ?_
          refine V_icmp_lt 49 45 rfl dX2_readText_42 rfl (fun c42 => absurd c42 (nI_nlt (b := 60) (by omega) (by omega))) (fun c42 => ?_)
          refine V_iconst 46 (1) rfl dX2_readText_45 rfl ?_
          refine V_goto 50 rfl dX2_readText_46 ?_
          refine V_callV (K' := 0) (S' := 0) 53 c 2 2 [rf G 1, .int 1] mkX2_readClause lkX2_49 (by decide) rfl (ly_c hc).1 (by omega) rfl (Nat.le_of_ble_eq_true rfl) (Nat.le_of_ble_eq_true rfl) (Nat.le_of_ble_eq_true rfl) (Nat.le_of_ble_eq_true rfl) rfl rfl dX2_readText_50 rfl (c_X2_readClause (fl := 1) hRK hT1 hc hC hWp.1.1 hWp.1.2.1 hWp.1.2.2.1 hp (by decide) (fun K2 p2 I2 e2 hC2 hx2 hp2 => ?_) (fun k2 q2 p2 I2 e2 hk2 hk3 hx2 hp2 => ?_))
          · refine Kq_v (k' := 0) (sl' := 0) rfl rfl ?_
            have hT2 := (hx.tr hx2).T hc hT
            refine V_aload_n 54 2 rfl _ rfl rfl dX2_readText_53 rfl ?_
            refine V_bipush 56 (59) rfl dX2_readText_54 rfl ?_
            refine V_callV (K' := 0) (S' := 0) 59 1 8 1 [.int 59] mkX8_takeSign lkX2_53 (by decide) rfl rfl (by decide) rfl (Nat.le_of_ble_eq_true rfl) (Nat.le_of_ble_eq_true rfl) (Nat.le_of_ble_eq_true rfl) (Nat.le_of_ble_eq_true rfl) rfl rfl dX2_readText_56 rfl (c_X8_takeSign (c := 59) hRK hT2 (by decide) (by decide) (by decide) hp2 (fun e => absurd rfl e) (fun p56 _ e56 => ?_) (fun _ e56 => ?_))
            · refine Kq_v (k' := 0) (sl' := 0) rfl rfl ?_
              obtain ⟨-, -, -, lt56, hp56⟩ := pSig_ok e56
              refine V_iinc 62 0 rfl (nI (n + 1)) [(2, .int (nI (n + 1))), (0, rf G c), (1, rf G 1)] (nI_1 _) (by decide) rfl dX2_readText_59 rfl ?_
              refine V_goto 17 rfl dX2_readText_62 ?_
              exact V_lv [0, 1, 2] rfl (ih (n + 1) K2 p56 I2 (by omega) (by first | exact absurd rfl (pCl_W hWp e2).2 | omega) hp56 hC2 (pCl_W hWp e2).1 (hx.tr hx2) (eq.trans (bd_ok (pCs_ok e2 e56))))
            · refine Kq_v (k' := 0) (sl' := 0) rfl rfl ?_
              refine V_iinc 62 0 rfl (nI (n + 1)) [(2, .int (nI (n + 1))), (0, rf G c), (1, rf G 1)] (nI_1 _) (by decide) rfl dX2_readText_59 rfl ?_
              refine V_goto 17 rfl dX2_readText_62 ?_
              exact V_lv [0, 1, 2] rfl (exit _ p2 I2 1 p2 (by decide) (by decide) (hx.tr hx2) hp2 (eq.trans (bd_no (pCs_n2 e2 e56))))
          · refine Kq_v (k' := 0) (sl' := 0) rfl rfl ?_
            have hT2 := (hx.tr hx2).T hc hT
            have kn2 := kd_ne hk2 hk3
            refine V_aload_n 54 2 rfl _ rfl rfl dX2_readText_53 rfl ?_
            refine V_bipush 56 (59) rfl dX2_readText_54 rfl ?_
            refine V_callV (K' := 0) (S' := 0) 59 1 8 1 [.int 59] mkX8_takeSign lkX2_53 (by decide) rfl rfl (by decide) rfl (Nat.le_of_ble_eq_true rfl) (Nat.le_of_ble_eq_true rfl) (Nat.le_of_ble_eq_true rfl) (Nat.le_of_ble_eq_true rfl) rfl rfl dX2_readText_56 rfl (c_X8_takeSign (c := 59) hRK hT2 (by decide) (by decide) (by decide) hp2 (fun _ => ?_) (fun _ e _ => absurd e kn2) (fun e _ => absurd e kn2))
            refine Kq_v (k' := 0) (sl' := 0) rfl rfl ?_
            refine V_iinc 62 0 rfl (nI (n + 1)) [(2, .int (nI (n + 1))), (0, rf G c), (1, rf G 1)] (nI_1 _) (by decide) rfl dX2_readText_59 rfl ?_
            refine V_goto 17 rfl dX2_readText_62 ?_
            exact V_lv [0, 1, 2] rfl (exit _ p2 I2 k2 q2 hk2 hk3 (hx.tr hx2) hp2 (eq.trans (bd_no (pCs_n1 e2))))
  show V _ _ _ _ _ _ _ _ [(0, rf G c), (1, rf G 1)] [] _ _ _ _ _
  refine V_aload_n 1 0 rfl _ rfl rfl dX2_readText_0 rfl ?_
  refine V_iconst 2 (0) rfl dX2_readText_1 rfl ?_
  refine V_putI 5 c 2 6 flX2_30 rfl (ly_c hc).1 rfl (by omega) rfl dX2_readText_2 rfl ?_
  rw [tp_up (by omega)]
  refine V_aload_n 6 0 rfl _ rfl rfl dX2_readText_5 rfl ?_
  refine V_iconst 7 (0) rfl dX2_readText_6 rfl ?_
  refine V_putI 10 c 2 7 flX2_34 rfl (ly_c hc).1 rfl (by omega) rfl dX2_readText_7 rfl ?_
  rw [tp_up (by omega)]
  refine V_aload_n 11 0 rfl _ rfl rfl dX2_readText_10 rfl ?_
  refine V_iconst 12 (0) rfl dX2_readText_11 rfl ?_
  refine V_putI 15 c 2 8 flX2_37 rfl (ly_c hc).1 rfl (by omega) rfl dX2_readText_12 rfl ?_
  rw [tp_up (by omega)]
  refine V_iconst 16 (0) rfl dX2_readText_15 rfl ?_
  refine V_istore_n 17 [(2, .int 0), (0, rf G c), (1, rf G 1)] (by decide) rfl rfl dX2_readText_16 rfl ?_
  exact V_lv [0, 1, 2] rfl (L 61 0 K0 _ _ rfl (by decide) (sk_z (Nat.zero_le z)).2.1 ⟨by rw [up2_s, upd_n (by decide), up2_s, upd_n (by decide), up2_s]; exact upd_s, by rw [up2_s, upd_n (by decide), up2_s]; exact upd_s, by rw [up2_s]; exact upd_s, fun h hh => absurd hh (Nat.not_lt_zero h), fun h hh => absurd hh (Nat.not_lt_zero h), fun h hh => absurd hh (Nat.not_lt_zero h), fun h hh => absurd hh (Nat.not_lt_zero h), fun h hh => absurd hh (Nat.not_lt_zero h), fun h hh => absurd hh (Nat.not_lt_zero h)⟩ K0_W (fun a ha => by rw [up2_n _ _ _ (by omega), up2_n _ _ _ (by omega), up2_n _ _ _ (by omega)]) rfl)
