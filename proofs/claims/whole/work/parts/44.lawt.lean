/-! ===== a LAW's text ===== -/
abbrev LE : Type := DV → Int32
def opN (c : Nat) : Nat := if c = 43 then 2 else if c = 45 then 3 else if c = 42 then 4 else if c = 47 then 5 else 6
def pProdL (u : Nat → FT ⊕ (LE × Nat)) (t : Nat → Nat) (z : Nat) : Nat → LE → Nat → FT ⊕ (LE × Nat)
  | 0, e, p => .inr (e, p)
  | f + 1, e, p => if p < z ∧ (t p = 42 ∨ t p = 47 ∨ t p = 37) then bd (u (nx t z p)) (fun x => pProdL u t z f (fun F => jnF (opN (t p)) (e F) (x.1 F)) x.2) else .inr (e, p)
def pProd (u : Nat → FT ⊕ (LE × Nat)) (t : Nat → Nat) (z p : Nat) : FT ⊕ (LE × Nat) := bd (u p) (fun x => pProdL u t z z x.1 x.2)
def pSumL (u : Nat → FT ⊕ (LE × Nat)) (t : Nat → Nat) (z : Nat) : Nat → LE → Nat → FT ⊕ (LE × Nat)
  | 0, e, p => .inr (e, p)
  | f + 1, e, p => if p < z ∧ (t p = 43 ∨ t p = 45) then bd (u (nx t z p)) (fun x => pSumL u t z f (fun F => jnF (opN (t p)) (e F) (x.1 F)) x.2) else .inr (e, p)
def pSum (u : Nat → FT ⊕ (LE × Nat)) (t : Nat → Nat) (z p : Nat) : FT ⊕ (LE × Nat) := bd (pProd u t z p) (fun x => pSumL (pProd u t z) t z z x.1 x.2)
def ftF (t : Nat → Nat) (z p : Nat) : Option Nat := if wcF t z p = ocF 7 then some 0 else if wcF t z p = ocF 8 then some 1 else if wcF t z p = ocF 9 then some 2 else if wcF t z p = ocF 10 then some 3 else if wcF t z p = ocF 11 then some 4 else if wcF t z p = ocF 12 then some 5 else if wcF t z p = ocF 13 then some 6 else if wcF t z p = ocF 14 then some 7 else none
def pFact (t : Nat → Nat) (z p : Nat) : FT ⊕ (LE × Nat) := match ftF t z p with
  | none => .inl (1, p)
  | some a => .inr (fun F => F a, nx t z p)
def pInner (s : Nat → FT ⊕ (LE × Nat)) (t : Nat → Nat) (z p : Nat) : FT ⊕ (LE × Nat) := bd (s (nx t z p)) (fun x => bd (pSig t z 41 x.2) (fun q => .inr (x.1, q)))
def pPair (s : Nat → FT ⊕ (LE × Nat)) (t : Nat → Nat) (z k p : Nat) : FT ⊕ (LE × Nat) := bd (pSig t z 91 (nx t z p)) (fun q => bd (s q) (fun x => bd (pSig t z 44 x.2) (fun q2 => bd (s q2) (fun y => bd (pSig t z 93 y.2) (fun q3 => .inr (fun F => jnF k (x.1 F) (y.1 F), q3))))))
def opens (t : Nat → Nat) (z p : Nat) : Prop := wcF t z p = ocF 5 ∨ wcF t z p = ocF 6 ∨ (p < z ∧ t p = 40)
def pUnit (t : Nat → Nat) (z : Nat) : Nat → Nat → FT ⊕ (LE × Nat)
  | 0, p => if p < z ∧ dg (t p) = true then bd (pNum t z 0 1000 p) (fun x => .inr (fun _ => nI x.1, x.2)) else if wcF t z p = ocF 5 ∨ wcF t z p = ocF 6 ∨ (p < z ∧ t p = 40) then .inl (3, p) else pFact t z p
  | lev + 1, p => if p < z ∧ dg (t p) = true then bd (pNum t z 0 1000 p) (fun x => .inr (fun _ => nI x.1, x.2)) else if wcF t z p = ocF 5 ∨ wcF t z p = ocF 6 ∨ (p < z ∧ t p = 40) then (if p < z ∧ t p = 40 then pInner (pSum (pUnit t z lev) t z) t z p else pPair (pSum (pUnit t z lev) t z) t z (if wcF t z p = ocF 5 then 7 else 8) p) else pFact t z p
def lawF (t : Nat → Nat) (z : Nat) : FT ⊕ LE := bd (pSum (pUnit t z 6) t z (sk t z 0)) (fun x => if z ≤ x.2 then .inr x.1 else .inl (1, x.2))
theorem ftF_lt {t : Nat → Nat} {z p a : Nat} (h : ftF t z p = some a) : a < 8 := by
  unfold ftF at h
  repeat' split at h
  all_goals first | (cases h; done) | (cases h; decide)
/-! what the class has read of a LAW by now -/
def LB (I : FI) (l s : Nat) : Prop := I l 4 = nI s ∧ s ≤ 150 ∧ ∀ i, i < s → PtOk (I (l + 1)) (I (l + 2)) (I (l + 3)) i
def VB (I : FI) (l r : Nat) (e : LE) : Prop := ∀ F, evP (I (l + 1)) (I (l + 2)) (I (l + 3)) F (fun _ => 0) (r + 1) r = e F
def Ext (I I' : FI) (l s : Nat) : Prop := ∀ i, i < s → I' (l + 1) i = I (l + 1) i ∧ I' (l + 2) i = I (l + 2) i ∧ I' (l + 3) i = I (l + 3) i
def FrL (I I' : FI) (l : Nat) : Prop := ∀ a, (a < l ∨ l + 3 < a) → I' a = I a
theorem FrL.rf {I : FI} {l : Nat} : FrL I I l := fun _ _ => rfl
theorem FrL.tr {I I1 I2 : FI} {l : Nat} (h : FrL I I1 l) (h2 : FrL I1 I2 l) : FrL I I2 l := fun a ha => (h2 a ha).trans (h a ha)
theorem FrL.T {I I' : FI} {l : Nat} {t : Nat → Nat} {z : Nat} (h : FrL I I' l) (hl : l = 11 ∨ l = 58) (hT : TxC I t z) : TxC I' t z := hT.fr (h 1 (by omega)) (h 2 (by omega))
theorem Ext.rf {I : FI} {l s : Nat} : Ext I I l s := fun _ _ => ⟨rfl, rfl, rfl⟩
theorem Ext.tr {I I1 I2 : FI} {l s s1 : Nat} (h : Ext I I1 l s) (h2 : Ext I1 I2 l s1) (hs : s ≤ s1) : Ext I I2 l s := fun i hi => by
  obtain ⟨a1, a2, a3⟩ := h i hi
  obtain ⟨b1, b2, b3⟩ := h2 i (by omega)
  exact ⟨b1.trans a1, b2.trans a2, b3.trans a3⟩
theorem evP_st {kd lf rt F W : DV} : ∀ s r, r < s → evP kd lf rt F W s r = evP kd lf rt F W (r + 1) r := by
  intro s
  induction s with
  | zero => intro r h; omega
  | succ s ih =>
    intro r h
    by_cases c : r = s
    · subst c; rfl
    · rw [evP, upd_n c, ih r (by omega)]
theorem evP_cg {kd lf rt kd' lf' rt' F W : DV} : ∀ s, (∀ i, i < s → kd' i = kd i ∧ lf' i = lf i ∧ rt' i = rt i) → evP kd' lf' rt' F W s = evP kd lf rt F W s := by
  intro s
  induction s with
  | zero => intro _; rfl
  | succ s ih =>
    intro h
    obtain ⟨a, b, c⟩ := h s (by omega)
    rw [evP, evP, ih (fun i hi => h i (by omega))]
    unfold pvF
    rw [a, b, c]
theorem VB.ext {I I' : FI} {l s r : Nat} {e : LE} (h : VB I l r e) (hx : Ext I I' l s) (hr : r < s) : VB I' l r e := fun F => by
  rw [evP_cg (r + 1) (fun i hi => hx i (by omega))]; exact h F
/-- a part more -/
def jnI (I : FI) (l s : Nat) (kd lf rt : Int32) : FI := up2 (up2 (up2 (up2 I (l + 1) s kd) (l + 2) s lf) (l + 3) s rt) l 4 (nI (s + 1))
theorem jn_1 {I : FI} {l s : Nat} {kd lf rt : Int32} : jnI I l s kd lf rt (l + 1) = upd (I (l + 1)) s kd := by unfold jnI; rw [up2_n _ _ _ (by omega), up2_n _ _ _ (by omega), up2_n _ _ _ (by omega), up2_s]
theorem jn_2 {I : FI} {l s : Nat} {kd lf rt : Int32} : jnI I l s kd lf rt (l + 2) = upd (I (l + 2)) s lf := by unfold jnI; rw [up2_n _ _ _ (by omega), up2_n _ _ _ (by omega), up2_s, up2_n _ _ _ (by omega)]
theorem jn_3 {I : FI} {l s : Nat} {kd lf rt : Int32} : jnI I l s kd lf rt (l + 3) = upd (I (l + 3)) s rt := by unfold jnI; rw [up2_n _ _ _ (by omega), up2_s, up2_n _ _ _ (by omega), up2_n _ _ _ (by omega)]
theorem jn_4 {I : FI} {l s : Nat} {kd lf rt : Int32} : jnI I l s kd lf rt l 4 = nI (s + 1) := by unfold jnI; rw [up2_s]; exact upd_s
theorem jn_n {I : FI} {l s a : Nat} {kd lf rt : Int32} (h : a < l ∨ l + 3 < a) : jnI I l s kd lf rt a = I a := by unfold jnI; rw [up2_n _ _ _ (by omega), up2_n _ _ _ (by omega), up2_n _ _ _ (by omega), up2_n _ _ _ (by omega)]
theorem jn_fr {I : FI} {l s : Nat} {kd lf rt : Int32} : FrL I (jnI I l s kd lf rt) l := fun a ha => jn_n ha
theorem jn_ext {I : FI} {l s : Nat} {kd lf rt : Int32} : Ext I (jnI I l s kd lf rt) l s := fun i hi => ⟨by rw [jn_1, upd_n (by omega)], by rw [jn_2, upd_n (by omega)], by rw [jn_3, upd_n (by omega)]⟩
theorem PtOk.cg {kd lf rt kd' lf' rt' : DV} {i : Nat} (h : PtOk kd lf rt i) (e : kd' i = kd i ∧ lf' i = lf i ∧ rt' i = rt i) : PtOk kd' lf' rt' i := by
  unfold PtOk at h ⊢
  rw [e.1, e.2.1, e.2.2]; exact h
theorem jn_LB {I : FI} {l s : Nat} {kd lf rt : Int32} (h : LB I l s) (hs : s < 150) (hp : PtOk (upd (I (l + 1)) s kd) (upd (I (l + 2)) s lf) (upd (I (l + 3)) s rt) s) : LB (jnI I l s kd lf rt) l (s + 1) := by
  refine ⟨jn_4, by omega, fun i hi => ?_⟩
  by_cases c : i = s
  · subst c; rw [jn_1, jn_2, jn_3]; exact hp
  · exact (h.2.2 i (by omega)).cg (jn_ext i (by omega))
theorem jn_VB {I : FI} {l s : Nat} {kd lf rt : Int32} {e : LE} (h : ∀ F, pvF (upd (I (l + 1)) s kd) (upd (I (l + 2)) s lf) (upd (I (l + 3)) s rt) F (evP (I (l + 1)) (I (l + 2)) (I (l + 3)) F (fun _ => 0) s) s = e F) : VB (jnI I l s kd lf rt) l s e := fun F => by
  rw [evP, upd_s, evP_cg s (fun i hi => jn_ext i hi), jn_1, jn_2, jn_3]
  exact h F
theorem jn_c {I : FI} {l s v : Nat} (h : LB I l s) (hs : s < 150) : LB (jnI I l s 0 (nI v) 0) l (s + 1) ∧ VB (jnI I l s 0 (nI v) 0) l s (fun _ => nI v) :=
  ⟨jn_LB h hs (Or.inl upd_s), jn_VB (fun F => by unfold pvF; rw [upd_s, if_pos rfl, upd_s])⟩
theorem jn_f {I : FI} {l s a : Nat} (h : LB I l s) (hs : s < 150) (ha : a < 8) : LB (jnI I l s 1 (nI a) 0) l (s + 1) ∧ VB (jnI I l s 1 (nI a) 0) l s (fun F => F a) :=
  ⟨jn_LB h hs (Or.inr (Or.inl ⟨upd_s, a, ha, upd_s⟩)), jn_VB (fun F => by unfold pvF; rw [upd_s, if_neg (by decide), if_pos rfl, upd_s, nI_clamp (by omega)])⟩
theorem jn_o {I : FI} {l s a b k : Nat} {e1 e2 : LE} (h : LB I l s) (hs : s < 150) (hk : 2 ≤ k) (hk8 : k ≤ 8) (ha : a < s) (hb : b < s) (h1 : VB I l a e1) (h2 : VB I l b e2) : LB (jnI I l s (nI k) (nI a) (nI b)) l (s + 1) ∧ VB (jnI I l s (nI k) (nI a) (nI b)) l s (fun F => jnF k (e1 F) (e2 F)) := by
  refine ⟨jn_LB h hs (Or.inr (Or.inr ⟨k, a, b, hk, hk8, ha, hb, upd_s, upd_s, upd_s⟩)), jn_VB (fun F => ?_)⟩
  unfold pvF
  rw [upd_s, if_neg (nI_ne0 (by omega) (by omega)), if_neg (fun e => by have := (nI_eq (b := 1) (by omega) (by decide)).mp e; omega), upd_s, upd_s, nI_clamp (by omega), nI_clamp (by omega), nI_clamp (by omega), evP_st s a ha, evP_st s b hb, h1 F, h2 F]
theorem tp_jn {t : Nat → Nat} {z : Nat} {I : FI} {p l s : Nat} {fc fp kd lf rt : Int32} (hl : l = 11 ∨ l = 58) : jnI (tp t z I p fc fp) l s kd lf rt = tp t z (jnI I l s kd lf rt) p fc fp := by
  unfold jnI
  rw [tp_up (by omega), tp_up (by omega), tp_up (by omega), tp_up (by omega)]
set_option maxHeartbeats 4000000 in
theorem c_X5_join {G : Gx} {d : Nat} {I : FI} {R : FR} {J : FJ} {Q : Po} (hRK : RK R) {l s : Nat} (hl : l = 11 ∨ l = 58) {kd lf rt : Int32} (hs : I l 4 = nI s) (h150 : s < 150) (hq : Q (.inl (some (.int (nI s)))) 103 (jnI I l s kd lf rt) R J) : Cc G mX5_join d 0 0 [rf G l, .int kd, .int lf, .int rt] 103 I R J Q := by
  show V _ _ _ _ _ _ _ _ [(0, rf G l), (1, .int kd), (2, .int lf), (3, .int rt)] [] _ _ _ _ _
  refine V_aload_n 1 0 rfl _ rfl rfl dX5_join_0 rfl ?_
  refine V_getI 4 l 5 4 (nI s) hs flX5_27 rfl (ly_l hl).1 rfl (by omega) dX5_join_1 rfl ?_
  refine V_sipush 7 (150) rfl dX5_join_4 rfl ?_
  refine V_icmp_lt 12 10 rfl dX5_join_7 rfl (fun c7 => ?_) (fun c7 => absurd (nI_lt (b := 150) h150 (by decide)) c7)
  refine V_aload_n 13 0 rfl _ rfl rfl dX5_join_12 rfl ?_
  refine V_getR 16 l 5 0 (l + 1) (rk_l0 hRK hl) flX5_9 rfl (ly_l hl).1 rfl (by omega) dX5_join_13 rfl ?_
  refine V_aload_n 17 0 rfl _ rfl rfl dX5_join_16 rfl ?_
  refine V_getI 20 l 5 4 (nI s) hs flX5_27 rfl (ly_l hl).1 rfl (by omega) dX5_join_17 rfl ?_
  refine V_iload_n 21 1 rfl rfl dX5_join_20 rfl ?_
  refine V_iastN 22 (l + 1) 150 s (by omega) (by decide) (ly_l hl).2.1 (by omega) dX5_join_21 rfl ?_
  refine V_aload_n 23 0 rfl _ rfl rfl dX5_join_22 rfl ?_
  refine V_getR 26 l 5 1 (l + 2) (rk_l1 hRK hl) flX5_15 rfl (ly_l hl).1 rfl (by omega) dX5_join_23 rfl ?_
  refine V_aload_n 27 0 rfl _ rfl rfl dX5_join_26 rfl ?_
  refine V_getI 30 l 5 4 (nI s) (by rw [up2_n _ _ _ (by omega)]; exact hs) flX5_27 rfl (ly_l hl).1 rfl (by omega) dX5_join_27 rfl ?_
  refine V_iload_n 31 2 rfl rfl dX5_join_30 rfl ?_
  refine V_iastN 32 (l + 2) 150 s (by omega) (by decide) (ly_l hl).2.2.1 (by omega) dX5_join_31 rfl ?_
  refine V_aload_n 33 0 rfl _ rfl rfl dX5_join_32 rfl ?_
  refine V_getR 36 l 5 2 (l + 3) (rk_l2 hRK hl) flX5_18 rfl (ly_l hl).1 rfl (by omega) dX5_join_33 rfl ?_
  refine V_aload_n 37 0 rfl _ rfl rfl dX5_join_36 rfl ?_
  refine V_getI 40 l 5 4 (nI s) (by rw [up2_n _ _ _ (by omega), up2_n _ _ _ (by omega)]; exact hs) flX5_27 rfl (ly_l hl).1 rfl (by omega) dX5_join_37 rfl ?_
  refine V_iload_n 41 3 rfl rfl dX5_join_40 rfl ?_
  refine V_iastN 42 (l + 3) 150 s (by omega) (by decide) (ly_l hl).2.2.2.1 (by omega) dX5_join_41 rfl ?_
  refine V_aload_n 43 0 rfl _ rfl rfl dX5_join_42 rfl ?_
  refine V_dup 44 rfl dX5_join_43 rfl ?_
  refine V_getI 47 l 5 4 (nI s) (by rw [up2_n _ _ _ (by omega), up2_n _ _ _ (by omega), up2_n _ _ _ (by omega)]; exact hs) flX5_27 rfl (ly_l hl).1 rfl (by omega) dX5_join_44 rfl ?_
  refine V_iconst 48 (1) rfl dX5_join_47 rfl ?_
  refine V_iadd 49 dX5_join_48 rfl ?_
  refine V_rw (nI_add s 1) ?_
  refine V_putI 52 l 5 4 flX5_27 rfl (ly_l hl).1 rfl (by omega) rfl dX5_join_49 rfl ?_
  refine V_aload_n 53 0 rfl _ rfl rfl dX5_join_52 rfl ?_
  refine V_getI 56 l 5 4 (nI (s + 1)) (by rw [up2_s]; exact upd_s) flX5_27 rfl (ly_l hl).1 rfl (by omega) dX5_join_53 rfl ?_
  refine V_iconst 57 (1) rfl dX5_join_56 rfl ?_
  refine V_isub 58 dX5_join_57 rfl ?_
  refine V_rw (nI_pred s) ?_
  refine V_ret_i rfl rfl (Nat.le_of_ble_eq_true rfl) (fun h => absurd h (by decide)) (Nat.le_of_ble_eq_true rfl) (hq) dX5_join_58
set_option maxHeartbeats 4000000 in
theorem c_X5_joinB {G : Gx} {d : Nat} {I : FI} {R : FR} {J : FJ} {Q : Po} (hRK : RK R) {l s : Nat} (hl : l = 11 ∨ l = 58) {kd lf rt : Int32} (hs : I l 4 = nI s) (h150 : s ≤ 150) (hq : ∀ v I' s', I' l 4 = nI s' → s' ≤ 150 → FrL I I' l → Q (.inl (some (.int v))) 103 I' R J) : Cc G mX5_join d 0 0 [rf G l, .int kd, .int lf, .int rt] 103 I R J Q := by
  by_cases c : s < 150
  · exact c_X5_join hRK hl hs c (hq _ _ (s + 1) jn_4 (by omega) jn_fr)
  · show V _ _ _ _ _ _ _ _ [(0, rf G l), (1, .int kd), (2, .int lf), (3, .int rt)] [] _ _ _ _ _
    refine V_aload_n 1 0 rfl _ rfl rfl dX5_join_0 rfl ?_
    refine V_getI 4 l 5 4 (nI s) hs flX5_27 rfl (ly_l hl).1 rfl (by omega) dX5_join_1 rfl ?_
    refine V_sipush 7 (150) rfl dX5_join_4 rfl ?_
    refine V_icmp_lt 12 10 rfl dX5_join_7 rfl (fun c7 => absurd c7 (nI_nlt (b := 150) (by omega) (by omega))) (fun c7 => ?_)
    refine V_iconst 11 (0) rfl dX5_join_10 rfl ?_
    refine V_ret_i rfl rfl (Nat.le_of_ble_eq_true rfl) (fun h => absurd h (by decide)) (Nat.le_of_ble_eq_true rfl) (hq _ _ s hs h150 FrL.rf) dX5_join_11
theorem c_X5_joinT {G : Gx} {d : Nat} {I : FI} {R : FR} {J : FJ} {Q : Po} (hRK : RK R) {t : Nat → Nat} {z p l s : Nat} {fc fp : Int32} (hl : l = 11 ∨ l = 58) {kd lf rt : Int32} (hs : I l 4 = nI s) (h150 : s < 150) (hq : Q (.inl (some (.int (nI s)))) 103 (tp t z (jnI I l s kd lf rt) p fc fp) R J) : Cc G mX5_join d 0 0 [rf G l, .int kd, .int lf, .int rt] 103 (tp t z I p fc fp) R J Q :=
  c_X5_join hRK hl (by rw [tp_n (by omega)]; exact hs) h150 (by rw [tp_jn hl]; exact hq)
set_option maxHeartbeats 4000000 in
theorem c_X5_joinTB {G : Gx} {d : Nat} {I : FI} {R : FR} {J : FJ} {Q : Po} (hRK : RK R) {t : Nat → Nat} {z p l s : Nat} {fc fp : Int32} (hl : l = 11 ∨ l = 58) {kd lf rt : Int32} (hs : I l 4 = nI s) (h150 : s ≤ 150) (hq : ∀ v I' s', I' l 4 = nI s' → s' ≤ 150 → FrL I I' l → Q (.inl (some (.int v))) 103 (tp t z I' p fc fp) R J) : Cc G mX5_join d 0 0 [rf G l, .int kd, .int lf, .int rt] 103 (tp t z I p fc fp) R J Q := by
  by_cases c : s < 150
  · exact c_X5_joinT hRK hl hs c (hq _ _ (s + 1) jn_4 (by omega) jn_fr)
  · show V _ _ _ _ _ _ _ _ [(0, rf G l), (1, .int kd), (2, .int lf), (3, .int rt)] [] _ _ _ _ _
    refine V_aload_n 1 0 rfl _ rfl rfl dX5_join_0 rfl ?_
    refine V_getI 4 l 5 4 (nI s) (by rw [tp_n (by omega)]; exact hs) flX5_27 rfl (ly_l hl).1 rfl (by omega) dX5_join_1 rfl ?_
    refine V_sipush 7 (150) rfl dX5_join_4 rfl ?_
    refine V_icmp_lt 12 10 rfl dX5_join_7 rfl (fun c7 => absurd c7 (nI_nlt (b := 150) (by omega) (by omega))) (fun c7 => ?_)
    refine V_iconst 11 (0) rfl dX5_join_10 rfl ?_
    refine V_ret_i rfl rfl (Nat.le_of_ble_eq_true rfl) (fun h => absurd h (by decide)) (Nat.le_of_ble_eq_true rfl) (hq _ _ s hs h150 FrL.rf) dX5_join_11
def sgP (t : Nat → Nat) (z p : Nat) : Int32 := if p < z ∧ (t p = 42 ∨ t p = 47 ∨ t p = 37) then nI (opN (t p)) else -1
set_option maxHeartbeats 4000000 in
theorem c_X5_productSign {G : Gx} {d : Nat} {I : FI} {R : FR} {J : FJ} {Q : Po} (hRK : RK R) {t : Nat → Nat} {z : Nat} (hT : TxC I t z) {p : Nat} {fp : Int32} (hq : Q (.inl (some (.int (sgP t z p)))) 103 (tp t z I p 0 fp) R J) : Cc G mX5_productSign (d + 1 + 1) 0 0 [rf G 1] 103 (tp t z I p 0 fp) R J Q := by
  show V _ _ _ _ _ _ _ _ [(0, rf G 1)] [] _ _ _ _ _
  refine V_aload_n 1 0 rfl _ rfl rfl dX5_productSign_0 rfl ?_
  refine V_bipush 3 (42) rfl dX5_productSign_1 rfl ?_
  refine V_callV (K' := 0) (S' := 0) 6 1 8 1 [.int 42] mkX8_isSign lkX5_55 (by decide) rfl rfl (by decide) rfl (Nat.le_of_ble_eq_true rfl) (Nat.le_of_ble_eq_true rfl) (Nat.le_of_ble_eq_true rfl) (Nat.le_of_ble_eq_true rfl) rfl rfl dX5_productSign_3 rfl (c_X8_isSign (c := 42) hRK hT (by decide) (by decide) (by decide) (fun _ z3 s3 => ?_) (fun s3 => ?_))
  · refine Kq_i (k' := 0) (sl' := 0) rfl rfl ?_
    refine V_if_eq 13 9 rfl dX5_productSign_6 rfl (fun c6 => absurd c6 (by decide)) (fun c6 => ?_)
    refine V_iconst 10 (4) rfl dX5_productSign_9 rfl ?_
    refine V_goto 41 rfl dX5_productSign_10 ?_
    refine V_ret_i rfl rfl (Nat.le_of_ble_eq_true rfl) (fun h => absurd h (by decide)) (Nat.le_of_ble_eq_true rfl) (by rw [sgP, if_pos ⟨z3, Or.inl s3⟩, s3] at hq; exact hq) dX5_productSign_41
  · refine Kq_i (k' := 0) (sl' := 0) rfl rfl ?_
    have s3 : ¬ (p < z ∧ t p = 42) := fun q => s3 ⟨rfl, q⟩
    refine V_if_eq 13 9 rfl dX5_productSign_6 rfl (fun c6 => ?_) (fun c6 => absurd c6 (by decide))
    refine V_aload_n 14 0 rfl _ rfl rfl dX5_productSign_13 rfl ?_
    refine V_bipush 16 (47) rfl dX5_productSign_14 rfl ?_
    refine V_callV (K' := 0) (S' := 0) 19 1 8 1 [.int 47] mkX8_isSign lkX5_55 (by decide) rfl rfl (by decide) rfl (Nat.le_of_ble_eq_true rfl) (Nat.le_of_ble_eq_true rfl) (Nat.le_of_ble_eq_true rfl) (Nat.le_of_ble_eq_true rfl) rfl rfl dX5_productSign_16 rfl (c_X8_isSign (c := 47) hRK hT (by decide) (by decide) (by decide) (fun _ z16 s16 => ?_) (fun s16 => ?_))
    · refine Kq_i (k' := 0) (sl' := 0) rfl rfl ?_
      refine V_if_eq 26 22 rfl dX5_productSign_19 rfl (fun c19 => absurd c19 (by decide)) (fun c19 => ?_)
      refine V_iconst 23 (5) rfl dX5_productSign_22 rfl ?_
      refine V_goto 41 rfl dX5_productSign_23 ?_
      refine V_ret_i rfl rfl (Nat.le_of_ble_eq_true rfl) (fun h => absurd h (by decide)) (Nat.le_of_ble_eq_true rfl) (by rw [sgP, if_pos ⟨z16, Or.inr (Or.inl s16)⟩, s16] at hq; exact hq) dX5_productSign_41
    · refine Kq_i (k' := 0) (sl' := 0) rfl rfl ?_
      have s16 : ¬ (p < z ∧ t p = 47) := fun q => s16 ⟨rfl, q⟩
      refine V_if_eq 26 22 rfl dX5_productSign_19 rfl (fun c19 => ?_) (fun c19 => absurd c19 (by decide))
      refine V_aload_n 27 0 rfl _ rfl rfl dX5_productSign_26 rfl ?_
      refine V_bipush 29 (37) rfl dX5_productSign_27 rfl ?_
      refine V_callV (K' := 0) (S' := 0) 32 1 8 1 [.int 37] mkX8_isSign lkX5_55 (by decide) rfl rfl (by decide) rfl (Nat.le_of_ble_eq_true rfl) (Nat.le_of_ble_eq_true rfl) (Nat.le_of_ble_eq_true rfl) (Nat.le_of_ble_eq_true rfl) rfl rfl dX5_productSign_29 rfl (c_X8_isSign (c := 37) hRK hT (by decide) (by decide) (by decide) (fun _ z29 s29 => ?_) (fun s29 => ?_))
      · refine Kq_i (k' := 0) (sl' := 0) rfl rfl ?_
        refine V_if_eq 40 35 rfl dX5_productSign_32 rfl (fun c32 => absurd c32 (by decide)) (fun c32 => ?_)
        refine V_bipush 37 (6) rfl dX5_productSign_35 rfl ?_
        refine V_goto 41 rfl dX5_productSign_37 ?_
        refine V_ret_i rfl rfl (Nat.le_of_ble_eq_true rfl) (fun h => absurd h (by decide)) (Nat.le_of_ble_eq_true rfl) (by rw [sgP, if_pos ⟨z29, Or.inr (Or.inr s29)⟩, s29] at hq; exact hq) dX5_productSign_41
      · refine Kq_i (k' := 0) (sl' := 0) rfl rfl ?_
        have s29 : ¬ (p < z ∧ t p = 37) := fun q => s29 ⟨rfl, q⟩
        refine V_if_eq 40 35 rfl dX5_productSign_32 rfl (fun c32 => ?_) (fun c32 => absurd c32 (by decide))
        refine V_iconst 41 (-1) rfl dX5_productSign_40 rfl ?_
        refine V_ret_i rfl rfl (Nat.le_of_ble_eq_true rfl) (fun h => absurd h (by decide)) (Nat.le_of_ble_eq_true rfl) (by rw [sgP, if_neg (fun q => q.2.elim (fun e => s3 ⟨q.1, e⟩) (fun e => e.elim (fun e => s16 ⟨q.1, e⟩) (fun e => s29 ⟨q.1, e⟩)))] at hq; exact hq) dX5_productSign_41
set_option maxHeartbeats 4000000 in
theorem c_X5_productSignF {G : Gx} {d : Nat} {I : FI} {R : FR} {J : FJ} {Q : Po} (hRK : RK R) {t : Nat → Nat} {z : Nat} (hT : TxC I t z) {p : Nat} {fc fp : Int32} (hf : ¬ fc = 0) (hq : Q (.inl (some (.int (-1)))) 103 (tp t z I p fc fp) R J) : Cc G mX5_productSign (d + 1 + 1) 0 0 [rf G 1] 103 (tp t z I p fc fp) R J Q := by
  show V _ _ _ _ _ _ _ _ [(0, rf G 1)] [] _ _ _ _ _
  refine V_aload_n 1 0 rfl _ rfl rfl dX5_productSign_0 rfl ?_
  refine V_bipush 3 (42) rfl dX5_productSign_1 rfl ?_
  refine V_callV (K' := 0) (S' := 0) 6 1 8 1 [.int 42] mkX8_isSign lkX5_55 (by decide) rfl rfl (by decide) rfl (Nat.le_of_ble_eq_true rfl) (Nat.le_of_ble_eq_true rfl) (Nat.le_of_ble_eq_true rfl) (Nat.le_of_ble_eq_true rfl) rfl rfl dX5_productSign_3 rfl (c_X8_isSign (c := 42) hRK hT (by decide) (by decide) (by decide) (fun e _ _ => absurd e hf) (fun _ => ?_))
  refine Kq_i (k' := 0) (sl' := 0) rfl rfl ?_
  refine V_if_eq 13 9 rfl dX5_productSign_6 rfl (fun c6 => ?_) (fun c6 => absurd c6 (by decide))
  refine V_aload_n 14 0 rfl _ rfl rfl dX5_productSign_13 rfl ?_
  refine V_bipush 16 (47) rfl dX5_productSign_14 rfl ?_
  refine V_callV (K' := 0) (S' := 0) 19 1 8 1 [.int 47] mkX8_isSign lkX5_55 (by decide) rfl rfl (by decide) rfl (Nat.le_of_ble_eq_true rfl) (Nat.le_of_ble_eq_true rfl) (Nat.le_of_ble_eq_true rfl) (Nat.le_of_ble_eq_true rfl) rfl rfl dX5_productSign_16 rfl (c_X8_isSign (c := 47) hRK hT (by decide) (by decide) (by decide) (fun e _ _ => absurd e hf) (fun _ => ?_))
  refine Kq_i (k' := 0) (sl' := 0) rfl rfl ?_
  refine V_if_eq 26 22 rfl dX5_productSign_19 rfl (fun c19 => ?_) (fun c19 => absurd c19 (by decide))
  refine V_aload_n 27 0 rfl _ rfl rfl dX5_productSign_26 rfl ?_
  refine V_bipush 29 (37) rfl dX5_productSign_27 rfl ?_
  refine V_callV (K' := 0) (S' := 0) 32 1 8 1 [.int 37] mkX8_isSign lkX5_55 (by decide) rfl rfl (by decide) rfl (Nat.le_of_ble_eq_true rfl) (Nat.le_of_ble_eq_true rfl) (Nat.le_of_ble_eq_true rfl) (Nat.le_of_ble_eq_true rfl) rfl rfl dX5_productSign_29 rfl (c_X8_isSign (c := 37) hRK hT (by decide) (by decide) (by decide) (fun e _ _ => absurd e hf) (fun _ => ?_))
  refine Kq_i (k' := 0) (sl' := 0) rfl rfl ?_
  refine V_if_eq 40 35 rfl dX5_productSign_32 rfl (fun c32 => ?_) (fun c32 => absurd c32 (by decide))
  refine V_iconst 41 (-1) rfl dX5_productSign_40 rfl ?_
  refine V_ret_i rfl rfl (Nat.le_of_ble_eq_true rfl) (fun h => absurd h (by decide)) (Nat.le_of_ble_eq_true rfl) (hq) dX5_productSign_41
set_option maxHeartbeats 4000000 in
theorem c_X5_factOf {G : Gx} {d : Nat} {I : FI} {R : FR} {J : FJ} {Q : Po} (hRK : RK R) {t : Nat → Nat} {z : Nat} (hT : TxC I t z) {p : Nat} {fc fp : Int32} (hp : p ≤ z) (hq : Q (.inl (some (.int (oI (ftF t z p))))) 103 (tp t z I p fc fp) R J) : Cc G mX5_factOf (d + 1 + 1 + 1 + 1 + 1) 0 0 [rf G 1] 103 (tp t z I p fc fp) R J Q := by
  show V _ _ _ _ _ _ _ _ [(0, rf G 1)] [] _ _ _ _ _
  refine V_aload_n 1 0 rfl _ rfl rfl dX5_factOf_0 rfl ?_
  refine V_ldcS 3 7 rfl rfl dX5_factOf_1 rfl ?_
  refine V_callV (K' := 0) (S' := 0) 6 1 8 1 [sr G 7] mkX8_isWord lkX5_78 (by decide) rfl rfl (by decide) rfl (Nat.le_of_ble_eq_true rfl) (Nat.le_of_ble_eq_true rfl) (Nat.le_of_ble_eq_true rfl) (Nat.le_of_ble_eq_true rfl) rfl rfl dX5_factOf_3 rfl (c_X8_isWd hRK hT hp (wdo 7 (by decide) (by decide) (by decide)) (fun w3 => ?_) (fun w3 => ?_))
  · refine Kq_i (k' := 0) (sl' := 0) rfl rfl ?_
    refine V_if_eq 11 9 rfl dX5_factOf_6 rfl (fun c6 => absurd c6 (by decide)) (fun c6 => ?_)
    refine V_iconst 10 (0) rfl dX5_factOf_9 rfl ?_
    refine V_ret_i rfl rfl (Nat.le_of_ble_eq_true rfl) (fun h => absurd h (by decide)) (Nat.le_of_ble_eq_true rfl) (by rw [ftF, if_pos w3] at hq; exact hq) dX5_factOf_10
  · refine Kq_i (k' := 0) (sl' := 0) rfl rfl ?_
    refine V_if_eq 11 9 rfl dX5_factOf_6 rfl (fun c6 => ?_) (fun c6 => absurd c6 (by decide))
    refine V_aload_n 12 0 rfl _ rfl rfl dX5_factOf_11 rfl ?_
    refine V_ldcS 14 8 rfl rfl dX5_factOf_12 rfl ?_
    refine V_callV (K' := 0) (S' := 0) 17 1 8 1 [sr G 8] mkX8_isWord lkX5_78 (by decide) rfl rfl (by decide) rfl (Nat.le_of_ble_eq_true rfl) (Nat.le_of_ble_eq_true rfl) (Nat.le_of_ble_eq_true rfl) (Nat.le_of_ble_eq_true rfl) rfl rfl dX5_factOf_14 rfl (c_X8_isWd hRK hT hp (wdo 8 (by decide) (by decide) (by decide)) (fun w14 => ?_) (fun w14 => ?_))
    · refine Kq_i (k' := 0) (sl' := 0) rfl rfl ?_
      refine V_if_eq 22 20 rfl dX5_factOf_17 rfl (fun c17 => absurd c17 (by decide)) (fun c17 => ?_)
      refine V_iconst 21 (1) rfl dX5_factOf_20 rfl ?_
      refine V_ret_i rfl rfl (Nat.le_of_ble_eq_true rfl) (fun h => absurd h (by decide)) (Nat.le_of_ble_eq_true rfl) (by rw [ftF, if_neg w3, if_pos w14] at hq; exact hq) dX5_factOf_21
    · refine Kq_i (k' := 0) (sl' := 0) rfl rfl ?_
      refine V_if_eq 22 20 rfl dX5_factOf_17 rfl (fun c17 => ?_) (fun c17 => absurd c17 (by decide))
      refine V_aload_n 23 0 rfl _ rfl rfl dX5_factOf_22 rfl ?_
      refine V_ldcS 25 9 rfl rfl dX5_factOf_23 rfl ?_
      refine V_callV (K' := 0) (S' := 0) 28 1 8 1 [sr G 9] mkX8_isWord lkX5_78 (by decide) rfl rfl (by decide) rfl (Nat.le_of_ble_eq_true rfl) (Nat.le_of_ble_eq_true rfl) (Nat.le_of_ble_eq_true rfl) (Nat.le_of_ble_eq_true rfl) rfl rfl dX5_factOf_25 rfl (c_X8_isWd hRK hT hp (wdo 9 (by decide) (by decide) (by decide)) (fun w25 => ?_) (fun w25 => ?_))
      · refine Kq_i (k' := 0) (sl' := 0) rfl rfl ?_
        refine V_if_eq 33 31 rfl dX5_factOf_28 rfl (fun c28 => absurd c28 (by decide)) (fun c28 => ?_)
        refine V_iconst 32 (2) rfl dX5_factOf_31 rfl ?_
        refine V_ret_i rfl rfl (Nat.le_of_ble_eq_true rfl) (fun h => absurd h (by decide)) (Nat.le_of_ble_eq_true rfl) (by rw [ftF, if_neg w3, if_neg w14, if_pos w25] at hq; exact hq) dX5_factOf_32
      · refine Kq_i (k' := 0) (sl' := 0) rfl rfl ?_
        refine V_if_eq 33 31 rfl dX5_factOf_28 rfl (fun c28 => ?_) (fun c28 => absurd c28 (by decide))
        refine V_aload_n 34 0 rfl _ rfl rfl dX5_factOf_33 rfl ?_
        refine V_ldcS 36 10 rfl rfl dX5_factOf_34 rfl ?_
        refine V_callV (K' := 0) (S' := 0) 39 1 8 1 [sr G 10] mkX8_isWord lkX5_78 (by decide) rfl rfl (by decide) rfl (Nat.le_of_ble_eq_true rfl) (Nat.le_of_ble_eq_true rfl) (Nat.le_of_ble_eq_true rfl) (Nat.le_of_ble_eq_true rfl) rfl rfl dX5_factOf_36 rfl (c_X8_isWd hRK hT hp (wdo 10 (by decide) (by decide) (by decide)) (fun w36 => ?_) (fun w36 => ?_))
        · refine Kq_i (k' := 0) (sl' := 0) rfl rfl ?_
          refine V_if_eq 44 42 rfl dX5_factOf_39 rfl (fun c39 => absurd c39 (by decide)) (fun c39 => ?_)
          refine V_iconst 43 (3) rfl dX5_factOf_42 rfl ?_
          refine V_ret_i rfl rfl (Nat.le_of_ble_eq_true rfl) (fun h => absurd h (by decide)) (Nat.le_of_ble_eq_true rfl) (by rw [ftF, if_neg w3, if_neg w14, if_neg w25, if_pos w36] at hq; exact hq) dX5_factOf_43
        · refine Kq_i (k' := 0) (sl' := 0) rfl rfl ?_
          refine V_if_eq 44 42 rfl dX5_factOf_39 rfl (fun c39 => ?_) (fun c39 => absurd c39 (by decide))
          refine V_aload_n 45 0 rfl _ rfl rfl dX5_factOf_44 rfl ?_
          refine V_ldcS 47 11 rfl rfl dX5_factOf_45 rfl ?_
          refine V_callV (K' := 0) (S' := 0) 50 1 8 1 [sr G 11] mkX8_isWord lkX5_78 (by decide) rfl rfl (by decide) rfl (Nat.le_of_ble_eq_true rfl) (Nat.le_of_ble_eq_true rfl) (Nat.le_of_ble_eq_true rfl) (Nat.le_of_ble_eq_true rfl) rfl rfl dX5_factOf_47 rfl (c_X8_isWd hRK hT hp (wdo 11 (by decide) (by decide) (by decide)) (fun w47 => ?_) (fun w47 => ?_))
          · refine Kq_i (k' := 0) (sl' := 0) rfl rfl ?_
            refine V_if_eq 55 53 rfl dX5_factOf_50 rfl (fun c50 => absurd c50 (by decide)) (fun c50 => ?_)
            refine V_iconst 54 (4) rfl dX5_factOf_53 rfl ?_
            refine V_ret_i rfl rfl (Nat.le_of_ble_eq_true rfl) (fun h => absurd h (by decide)) (Nat.le_of_ble_eq_true rfl) (by rw [ftF, if_neg w3, if_neg w14, if_neg w25, if_neg w36, if_pos w47] at hq; exact hq) dX5_factOf_54
          · refine Kq_i (k' := 0) (sl' := 0) rfl rfl ?_
            refine V_if_eq 55 53 rfl dX5_factOf_50 rfl (fun c50 => ?_) (fun c50 => absurd c50 (by decide))
            refine V_aload_n 56 0 rfl _ rfl rfl dX5_factOf_55 rfl ?_
            refine V_ldcS 58 12 rfl rfl dX5_factOf_56 rfl ?_
            refine V_callV (K' := 0) (S' := 0) 61 1 8 1 [sr G 12] mkX8_isWord lkX5_78 (by decide) rfl rfl (by decide) rfl (Nat.le_of_ble_eq_true rfl) (Nat.le_of_ble_eq_true rfl) (Nat.le_of_ble_eq_true rfl) (Nat.le_of_ble_eq_true rfl) rfl rfl dX5_factOf_58 rfl (c_X8_isWd hRK hT hp (wdo 12 (by decide) (by decide) (by decide)) (fun w58 => ?_) (fun w58 => ?_))
            · refine Kq_i (k' := 0) (sl' := 0) rfl rfl ?_
              refine V_if_eq 66 64 rfl dX5_factOf_61 rfl (fun c61 => absurd c61 (by decide)) (fun c61 => ?_)
              refine V_iconst 65 (5) rfl dX5_factOf_64 rfl ?_
              refine V_ret_i rfl rfl (Nat.le_of_ble_eq_true rfl) (fun h => absurd h (by decide)) (Nat.le_of_ble_eq_true rfl) (by rw [ftF, if_neg w3, if_neg w14, if_neg w25, if_neg w36, if_neg w47, if_pos w58] at hq; exact hq) dX5_factOf_65
            · refine Kq_i (k' := 0) (sl' := 0) rfl rfl ?_
              refine V_if_eq 66 64 rfl dX5_factOf_61 rfl (fun c61 => ?_) (fun c61 => absurd c61 (by decide))
              refine V_aload_n 67 0 rfl _ rfl rfl dX5_factOf_66 rfl ?_
              refine V_ldcS 69 13 rfl rfl dX5_factOf_67 rfl ?_
              refine V_callV (K' := 0) (S' := 0) 72 1 8 1 [sr G 13] mkX8_isWord lkX5_78 (by decide) rfl rfl (by decide) rfl (Nat.le_of_ble_eq_true rfl) (Nat.le_of_ble_eq_true rfl) (Nat.le_of_ble_eq_true rfl) (Nat.le_of_ble_eq_true rfl) rfl rfl dX5_factOf_69 rfl (c_X8_isWd hRK hT hp (wdo 13 (by decide) (by decide) (by decide)) (fun w69 => ?_) (fun w69 => ?_))
              · refine Kq_i (k' := 0) (sl' := 0) rfl rfl ?_
                refine V_if_eq 78 75 rfl dX5_factOf_72 rfl (fun c72 => absurd c72 (by decide)) (fun c72 => ?_)
                refine V_bipush 77 (6) rfl dX5_factOf_75 rfl ?_
                refine V_ret_i rfl rfl (Nat.le_of_ble_eq_true rfl) (fun h => absurd h (by decide)) (Nat.le_of_ble_eq_true rfl) (by rw [ftF, if_neg w3, if_neg w14, if_neg w25, if_neg w36, if_neg w47, if_neg w58, if_pos w69] at hq; exact hq) dX5_factOf_77
              · refine Kq_i (k' := 0) (sl' := 0) rfl rfl ?_
                refine V_if_eq 78 75 rfl dX5_factOf_72 rfl (fun c72 => ?_) (fun c72 => absurd c72 (by decide))
                refine V_aload_n 79 0 rfl _ rfl rfl dX5_factOf_78 rfl ?_
                refine V_ldcS 81 14 rfl rfl dX5_factOf_79 rfl ?_
                refine V_callV (K' := 0) (S' := 0) 84 1 8 1 [sr G 14] mkX8_isWord lkX5_78 (by decide) rfl rfl (by decide) rfl (Nat.le_of_ble_eq_true rfl) (Nat.le_of_ble_eq_true rfl) (Nat.le_of_ble_eq_true rfl) (Nat.le_of_ble_eq_true rfl) rfl rfl dX5_factOf_81 rfl (c_X8_isWd hRK hT hp (wdo 14 (by decide) (by decide) (by decide)) (fun w81 => ?_) (fun w81 => ?_))
                · refine Kq_i (k' := 0) (sl' := 0) rfl rfl ?_
                  refine V_if_eq 92 87 rfl dX5_factOf_84 rfl (fun c84 => absurd c84 (by decide)) (fun c84 => ?_)
                  refine V_bipush 89 (7) rfl dX5_factOf_87 rfl ?_
                  refine V_goto 93 rfl dX5_factOf_89 ?_
                  refine V_ret_i rfl rfl (Nat.le_of_ble_eq_true rfl) (fun h => absurd h (by decide)) (Nat.le_of_ble_eq_true rfl) (by rw [ftF, if_neg w3, if_neg w14, if_neg w25, if_neg w36, if_neg w47, if_neg w58, if_neg w69, if_pos w81] at hq; exact hq) dX5_factOf_93
                · refine Kq_i (k' := 0) (sl' := 0) rfl rfl ?_
                  refine V_if_eq 92 87 rfl dX5_factOf_84 rfl (fun c84 => ?_) (fun c84 => absurd c84 (by decide))
                  refine V_iconst 93 (-1) rfl dX5_factOf_92 rfl ?_
                  refine V_ret_i rfl rfl (Nat.le_of_ble_eq_true rfl) (fun h => absurd h (by decide)) (Nat.le_of_ble_eq_true rfl) (by rw [ftF, if_neg w3, if_neg w14, if_neg w25, if_neg w36, if_neg w47, if_neg w58, if_neg w69, if_neg w81] at hq; exact hq) dX5_factOf_93
/-- what readUnit, readProduct, readSum do, by what u says of the text -/
def LCt (G : Gx) (m : MD) (D0 : Nat) (xs : List Value) (t : Nat → Nat) (z : Nat) (u : Nat → FT ⊕ (LE × Nat)) : Prop := ∀ (d : Nat) (I : FI) (R : FR) (J : FJ) (Q : Po) (l p s : Nat) (fp : Int32), D0 ≤ d → RK R → (l = 11 ∨ l = 58) → TxC I t z → z ≤ 150 → p ≤ z → s ≤ p → LB I l s →
  (∀ e p' I' s' r, u p = .inr (e, p') → p < p' → p' ≤ z → r + 1 = s' → s < s' → s' + p ≤ s + p' → LB I' l s' → VB I' l r e → Ext I I' l s → FrL I I' l → Q (.inl (some (.int (nI r)))) 103 (tp t z I' p' 0 fp) R J) →
  (∀ k q p' I' v s', u p = .inl (k, q) → 0 < k → k ≤ 3 → q ≤ z → p' ≤ z → I' l 4 = nI s' → s' ≤ 150 → FrL I I' l → Q (.inl (some (.int v))) 103 (tp t z I' p' (nI k) (nI q)) R J) →
  Cc G m d 0 0 (rf G l :: rf G 1 :: xs) 103 (tp t z I p 0 fp) R J Q
theorem op_2 (c : Nat) : 2 ≤ opN c := by
  unfold opN
  repeat' split
  all_goals decide
theorem op_8 (c : Nat) : opN c ≤ 8 := by
  unfold opN
  repeat' split
  all_goals decide
set_option maxHeartbeats 8000000 in
theorem c_X5_readProduct {G : Gx} {t : Nat → Nat} {z o D0 : Nat} {u : Nat → FT ⊕ (LE × Nat)} (hU : LCt G mX5_readUnit D0 [.int (nI o)] t z u) : LCt G mX5_readProduct (D0 + 10) [.int (nI o)] t z (fun p => bd (u p) (fun x => pProdL u t z z x.1 x.2)) := by
  intro d I R J Q l p s fp hd hRK hl hT h150 hp hs hLB hk hb
  obtain ⟨m, rfl⟩ : ∃ m, d = m + 10 := ⟨d - 10, by omega⟩
  have h6 := hT.2.1
  have hexit : ∀ (i v : Int32) p1 I1 k q s1, 0 < k → k ≤ 3 → q ≤ z → p1 ≤ z → I1 l 4 = nI s1 → s1 ≤ 150 → FrL I I1 l → bd (u p) (fun x => pProdL u t z z x.1 x.2) = .inl (k, q) → V G mX5_readProduct (m + 10) 0 0 0 0 16 [(5, .int i), (4, .int (-1)), (3, .int v), (0, rf G l), (1, rf G 1), (2, .int (nI o))] [] 103 (tp t z I1 p1 (nI k) (nI q)) R J Q := by
    intro i v p1 I1 k q s1 hk1 hk3 hq hp1 h4 h5 hF e1
    have hT1 := hF.T hl hT
    have kn := kd_ne hk1 hk3
    refine V_iload 18 0 rfl dX5_readProduct_16 rfl ?_
    refine V_sipush 21 (150) rfl dX5_readProduct_18 rfl ?_
    refine V_icmp_ge 60 24 rfl dX5_readProduct_21 rfl (fun c21 => ?_) (fun c21 => ?_)
    · refine V_iload_n 61 2 rfl rfl dX5_readProduct_60 rfl ?_
      refine V_ret_i rfl rfl (Nat.le_of_ble_eq_true rfl) (fun h => absurd h (by decide)) (Nat.le_of_ble_eq_true rfl) (hb _ _ _ _ _ _ e1 hk1 hk3 hq hp1 h4 h5 hF) dX5_readProduct_61
    · refine V_iload 26 1 rfl dX5_readProduct_24 rfl ?_
      refine V_iconst 27 (-1) rfl dX5_readProduct_26 rfl ?_
      refine V_icmp_eq 60 30 rfl dX5_readProduct_27 rfl (fun c27 => ?_) (fun c27 => absurd c27 (by decide))
      refine V_iload_n 61 2 rfl rfl dX5_readProduct_60 rfl ?_
      refine V_ret_i rfl rfl (Nat.le_of_ble_eq_true rfl) (fun h => absurd h (by decide)) (Nat.le_of_ble_eq_true rfl) (hb _ _ _ _ _ _ e1 hk1 hk3 hq hp1 h4 h5 hF) dX5_readProduct_61
  have L : ∀ f i r1 s1 e1 p1 I1, z - p1 ≤ f → i ≤ p1 → p < p1 → p1 ≤ z → r1 + 1 = s1 → s < s1 → s1 + p ≤ s + p1 → LB I1 l s1 → VB I1 l r1 e1 → Ext I I1 l s → FrL I I1 l → bd (u p) (fun x => pProdL u t z z x.1 x.2) = pProdL u t z f e1 p1 → V G mX5_readProduct (m + 10) 0 0 0 0 16 [(5, .int (nI i)), (4, .int (sgP t z p1)), (3, .int (nI r1)), (0, rf G l), (1, rf G 1), (2, .int (nI o))] [] 103 (tp t z I1 p1 0 fp) R J Q := by
    intro f
    induction f with
    | zero =>
      intro i r1 s1 e1 p1 I1 hf hi hlt hp1 hr hss hsz hLB1 hV1 hE1 hF1 eq
      have hT1 := hF1.T hl hT
      have cs : ¬ (p1 < z ∧ (t p1 = 42 ∨ t p1 = 47 ∨ t p1 = 37)) := fun q => by omega
      rw [show sgP t z p1 = -1 from if_neg cs]
      refine V_iload 18 0 rfl dX5_readProduct_16 rfl ?_
      refine V_sipush 21 (150) rfl dX5_readProduct_18 rfl ?_
      refine V_icmp_ge 60 24 rfl dX5_readProduct_21 rfl (fun c21 => ?_) (fun c21 => ?_)
      · refine V_iload_n 61 2 rfl rfl dX5_readProduct_60 rfl ?_
        refine V_ret_i rfl rfl (Nat.le_of_ble_eq_true rfl) (fun h => absurd h (by decide)) (Nat.le_of_ble_eq_true rfl) (hk e1 p1 I1 s1 r1 eq hlt hp1 hr hss hsz hLB1 hV1 hE1 hF1) dX5_readProduct_61
      · refine V_iload 26 1 rfl dX5_readProduct_24 rfl ?_
        refine V_iconst 27 (-1) rfl dX5_readProduct_26 rfl ?_
        refine V_icmp_eq 60 30 rfl dX5_readProduct_27 rfl (fun c27 => ?_) (fun c27 => absurd c27 (by decide))
        refine V_iload_n 61 2 rfl rfl dX5_readProduct_60 rfl ?_
        refine V_ret_i rfl rfl (Nat.le_of_ble_eq_true rfl) (fun h => absurd h (by decide)) (Nat.le_of_ble_eq_true rfl) (hk e1 p1 I1 s1 r1 eq hlt hp1 hr hss hsz hLB1 hV1 hE1 hF1) dX5_readProduct_61
    | succ f ih =>
      intro i r1 s1 e1 p1 I1 hf hi hlt hp1 hr hss hsz hLB1 hV1 hE1 hF1 eq
      have hT1 := hF1.T hl hT
      rw [pProdL] at eq
      by_cases cs : p1 < z ∧ (t p1 = 42 ∨ t p1 = 47 ∨ t p1 = 37)
      · have n3 := (nx_z (t := t) hp1).2.2 cs.1
        rw [show sgP t z p1 = nI (opN (t p1)) from if_pos cs]
        refine V_iload 18 0 rfl dX5_readProduct_16 rfl ?_
        refine V_sipush 21 (150) rfl dX5_readProduct_18 rfl ?_
        refine V_icmp_ge 60 24 rfl dX5_readProduct_21 rfl (fun c21 => absurd c21 (nI_ge (b := 150) (by omega) (by decide))) (fun c21 => ?_)
        refine V_iload 26 1 rfl dX5_readProduct_24 rfl ?_
        refine V_iconst 27 (-1) rfl dX5_readProduct_26 rfl ?_
        refine V_icmp_eq 60 30 rfl dX5_readProduct_27 rfl (fun c27 => absurd c27 (nI_ne (by have := op_8 (t p1); omega))) (fun c27 => ?_)
        refine V_aload_n 31 4 rfl _ rfl rfl dX5_readProduct_30 rfl ?_
        refine V_callV (K' := 0) (S' := 0) 34 1 8 0 [] mkX8_next lkX5_59 (by decide) rfl rfl (by decide) rfl (Nat.le_of_ble_eq_true rfl) (Nat.le_of_ble_eq_true rfl) (Nat.le_of_ble_eq_true rfl) (Nat.le_of_ble_eq_true rfl) rfl rfl dX5_readProduct_31 rfl (c_X8_next hRK hT1 (enF_z hp1).2.1 ?_)
        refine Kq_v (k' := 0) (sl' := 0) rfl rfl ?_
        refine V_aload_n 35 3 rfl _ rfl rfl dX5_readProduct_34 rfl ?_
        refine V_iload 37 1 rfl dX5_readProduct_35 rfl ?_
        refine V_iload_n 38 2 rfl rfl dX5_readProduct_37 rfl ?_
        refine V_aload_n 39 3 rfl _ rfl rfl dX5_readProduct_38 rfl ?_
        refine V_aload_n 40 4 rfl _ rfl rfl dX5_readProduct_39 rfl ?_
        refine V_iload_n 41 5 rfl rfl dX5_readProduct_40 rfl ?_
        refine V_callV (K' := 0) (S' := 0) 44 l 5 2 [rf G 1, .int (nI o)] mkX5_readUnit lkX5_62 (by decide) rfl (ly_l hl).1 (by omega) rfl (Nat.le_of_ble_eq_true rfl) (Nat.le_of_ble_eq_true rfl) (Nat.le_of_ble_eq_true rfl) (Nat.le_of_ble_eq_true rfl) rfl rfl dX5_readProduct_41 rfl (hU _ _ _ _ _ l (nx t z p1) s1 _ (by omega) hRK hl hT1 h150 (nx_z hp1).2.1 (by omega) hLB1 (fun e41 p41 I41 s41 r41 eq41 lt41 hp41 hr41 hs41 hss41 hLB41 hV41 hE41 hF41 => ?_) (fun k41 q41 p41 I41 v41 s41 eq41 hk41 hk341 hq41 hp41 h441 h541 hF41 => ?_))
        · refine Kq_i (k' := 0) (sl' := 0) rfl rfl ?_
          have hT41 := hF41.T hl hT1
          have hj44 := jn_o (k := opN (t p1)) hLB41 (by omega) (op_2 _) (op_8 _) (show r1 < s41 by omega) (show r41 < s41 by omega) (hV1.ext hE41 (by omega)) hV41
          refine V_callV (K' := 0) (S' := 0) 47 l 5 3 [.int (nI (opN (t p1))), .int (nI r1), .int (nI r41)] mkX5_join lkX5_31 (by decide) rfl (ly_l hl).1 (by omega) rfl (Nat.le_of_ble_eq_true rfl) (Nat.le_of_ble_eq_true rfl) (Nat.le_of_ble_eq_true rfl) (Nat.le_of_ble_eq_true rfl) rfl rfl dX5_readProduct_44 rfl (c_X5_joinT hRK hl hLB41.1 (by omega) ?_)
          refine Kq_i (k' := 0) (sl' := 0) rfl rfl ?_
          refine V_istore_n 48 [(3, .int (nI s41)), (5, .int (nI i)), (4, .int (nI (opN (t p1)))), (0, rf G l), (1, rf G 1), (2, .int (nI o))] (by decide) rfl rfl dX5_readProduct_47 rfl ?_
          refine V_aload_n 49 4 rfl _ rfl rfl dX5_readProduct_48 rfl ?_
          refine V_callS (K' := 0) (S' := 0) 52 1 [rf G 1] mkX5_productSign lkX5_65 rfl (Nat.le_of_ble_eq_true rfl) (Nat.le_of_ble_eq_true rfl) (Nat.le_of_ble_eq_true rfl) (Nat.le_of_ble_eq_true rfl) rfl rfl dX5_readProduct_49 rfl (c_X5_productSign hRK (jn_fr.T hl hT41) ?_)
          refine Kq_i (k' := 0) (sl' := 0) rfl rfl ?_
          refine V_istore 54 [(4, .int (sgP t z p41)), (3, .int (nI s41)), (5, .int (nI i)), (0, rf G l), (1, rf G 1), (2, .int (nI o))] (by decide) rfl dX5_readProduct_52 rfl ?_
          refine V_iinc 57 2 rfl (nI (i + 1)) [(5, .int (nI (i + 1))), (4, .int (sgP t z p41)), (3, .int (nI s41)), (0, rf G l), (1, rf G 1), (2, .int (nI o))] (nI_1 _) (by decide) rfl dX5_readProduct_54 rfl ?_
          refine V_goto 16 rfl dX5_readProduct_57 ?_
          exact V_lv [0, 1, 2, 3, 4, 5] rfl (ih (i + 1) s41 (s41 + 1) _ p41 _ (by omega) (by omega) (by omega) hp41 (by omega) (by omega) (by omega) hj44.1 hj44.2 ((hE1.tr hE41 (by omega)).tr jn_ext (by omega)) ((hF1.tr hF41).tr jn_fr) (eq.trans ((if_pos cs).trans (bd_ok eq41))))
        · refine Kq_i (k' := 0) (sl' := 0) rfl rfl ?_
          have hT41 := hF41.T hl hT1
          have kn41 := kd_ne hk41 hk341
          refine V_callV (K' := 0) (S' := 0) 47 l 5 3 [.int (nI (opN (t p1))), .int (nI r1), .int v41] mkX5_join lkX5_31 (by decide) rfl (ly_l hl).1 (by omega) rfl (Nat.le_of_ble_eq_true rfl) (Nat.le_of_ble_eq_true rfl) (Nat.le_of_ble_eq_true rfl) (Nat.le_of_ble_eq_true rfl) rfl rfl dX5_readProduct_44 rfl (c_X5_joinTB hRK hl h441 h541 (fun v44 I44 s44 h444 h544 hF44 => ?_))
          refine Kq_i (k' := 0) (sl' := 0) rfl rfl ?_
          have hT44 := hF44.T hl hT41
          refine V_istore_n 48 [(3, .int v44), (5, .int (nI i)), (4, .int (nI (opN (t p1)))), (0, rf G l), (1, rf G 1), (2, .int (nI o))] (by decide) rfl rfl dX5_readProduct_47 rfl ?_
          refine V_aload_n 49 4 rfl _ rfl rfl dX5_readProduct_48 rfl ?_
          refine V_callS (K' := 0) (S' := 0) 52 1 [rf G 1] mkX5_productSign lkX5_65 rfl (Nat.le_of_ble_eq_true rfl) (Nat.le_of_ble_eq_true rfl) (Nat.le_of_ble_eq_true rfl) (Nat.le_of_ble_eq_true rfl) rfl rfl dX5_readProduct_49 rfl (c_X5_productSignF hRK hT44 kn41 ?_)
          refine Kq_i (k' := 0) (sl' := 0) rfl rfl ?_
          refine V_istore 54 [(4, .int (-1)), (3, .int v44), (5, .int (nI i)), (0, rf G l), (1, rf G 1), (2, .int (nI o))] (by decide) rfl dX5_readProduct_52 rfl ?_
          refine V_iinc 57 2 rfl (nI (i + 1)) [(5, .int (nI (i + 1))), (4, .int (-1)), (3, .int v44), (0, rf G l), (1, rf G 1), (2, .int (nI o))] (nI_1 _) (by decide) rfl dX5_readProduct_54 rfl ?_
          refine V_goto 16 rfl dX5_readProduct_57 ?_
          exact V_lv [0, 1, 2, 3, 4, 5] rfl (hexit _ _ _ _ _ _ _ hk41 hk341 hq41 hp41 h444 h544 ((hF1.tr hF41).tr hF44) (eq.trans ((if_pos cs).trans (bd_no eq41))))
      · rw [show sgP t z p1 = -1 from if_neg cs]
        refine V_iload 18 0 rfl dX5_readProduct_16 rfl ?_
        refine V_sipush 21 (150) rfl dX5_readProduct_18 rfl ?_
        refine V_icmp_ge 60 24 rfl dX5_readProduct_21 rfl (fun c21 => ?_) (fun c21 => ?_)
        · refine V_iload_n 61 2 rfl rfl dX5_readProduct_60 rfl ?_
          refine V_ret_i rfl rfl (Nat.le_of_ble_eq_true rfl) (fun h => absurd h (by decide)) (Nat.le_of_ble_eq_true rfl) (hk e1 p1 I1 s1 r1 (eq.trans (if_neg cs)) hlt hp1 hr hss hsz hLB1 hV1 hE1 hF1) dX5_readProduct_61
        · refine V_iload 26 1 rfl dX5_readProduct_24 rfl ?_
          refine V_iconst 27 (-1) rfl dX5_readProduct_26 rfl ?_
          refine V_icmp_eq 60 30 rfl dX5_readProduct_27 rfl (fun c27 => ?_) (fun c27 => absurd c27 (by decide))
          refine V_iload_n 61 2 rfl rfl dX5_readProduct_60 rfl ?_
          refine V_ret_i rfl rfl (Nat.le_of_ble_eq_true rfl) (fun h => absurd h (by decide)) (Nat.le_of_ble_eq_true rfl) (hk e1 p1 I1 s1 r1 (eq.trans (if_neg cs)) hlt hp1 hr hss hsz hLB1 hV1 hE1 hF1) dX5_readProduct_61
  show V _ _ _ _ _ _ _ _ [(0, rf G l), (1, rf G 1), (2, .int (nI o))] [] _ _ _ _ _
  refine V_aload_n 1 0 rfl _ rfl rfl dX5_readProduct_0 rfl ?_
  refine V_aload_n 2 1 rfl _ rfl rfl dX5_readProduct_1 rfl ?_
  refine V_iload_n 3 2 rfl rfl dX5_readProduct_2 rfl ?_
  refine V_callV (K' := 0) (S' := 0) 6 l 5 2 [rf G 1, .int (nI o)] mkX5_readUnit lkX5_62 (by decide) rfl (ly_l hl).1 (by omega) rfl (Nat.le_of_ble_eq_true rfl) (Nat.le_of_ble_eq_true rfl) (Nat.le_of_ble_eq_true rfl) (Nat.le_of_ble_eq_true rfl) rfl rfl dX5_readProduct_3 rfl (hU _ _ _ _ _ l p s _ (by omega) hRK hl hT h150 hp (by omega) hLB (fun e3 p3 I3 s3 r3 eq3 lt3 hp3 hr3 hs3 hss3 hLB3 hV3 hE3 hF3 => ?_) (fun k3 q3 p3 I3 v3 s3 eq3 hk3 hk33 hq3 hp3 h43 h53 hF3 => ?_))
  · refine Kq_i (k' := 0) (sl' := 0) rfl rfl ?_
    have hT3 := hF3.T hl hT
    refine V_istore_n 7 [(3, .int (nI r3)), (0, rf G l), (1, rf G 1), (2, .int (nI o))] (by decide) rfl rfl dX5_readProduct_6 rfl ?_
    refine V_aload_n 8 2 rfl _ rfl rfl dX5_readProduct_7 rfl ?_
    refine V_callS (K' := 0) (S' := 0) 11 1 [rf G 1] mkX5_productSign lkX5_65 rfl (Nat.le_of_ble_eq_true rfl) (Nat.le_of_ble_eq_true rfl) (Nat.le_of_ble_eq_true rfl) (Nat.le_of_ble_eq_true rfl) rfl rfl dX5_readProduct_8 rfl (c_X5_productSign hRK hT3 ?_)
    refine Kq_i (k' := 0) (sl' := 0) rfl rfl ?_
    refine V_istore 13 [(4, .int (sgP t z p3)), (3, .int (nI r3)), (0, rf G l), (1, rf G 1), (2, .int (nI o))] (by decide) rfl dX5_readProduct_11 rfl ?_
    refine V_iconst 14 (0) rfl dX5_readProduct_13 rfl ?_
    refine V_istore 16 [(5, .int 0), (4, .int (sgP t z p3)), (3, .int (nI r3)), (0, rf G l), (1, rf G 1), (2, .int (nI o))] (by decide) rfl dX5_readProduct_14 rfl ?_
    exact V_lv [0, 1, 2, 3, 4, 5] rfl (L z 0 r3 s3 e3 p3 I3 (by omega) (by omega) lt3 hp3 hr3 hs3 hss3 hLB3 hV3 hE3 hF3 (bd_ok eq3))
  · refine Kq_i (k' := 0) (sl' := 0) rfl rfl ?_
    have hT3 := hF3.T hl hT
    have kn3 := kd_ne hk3 hk33
    refine V_istore_n 7 [(3, .int v3), (0, rf G l), (1, rf G 1), (2, .int (nI o))] (by decide) rfl rfl dX5_readProduct_6 rfl ?_
    refine V_aload_n 8 2 rfl _ rfl rfl dX5_readProduct_7 rfl ?_
    refine V_callS (K' := 0) (S' := 0) 11 1 [rf G 1] mkX5_productSign lkX5_65 rfl (Nat.le_of_ble_eq_true rfl) (Nat.le_of_ble_eq_true rfl) (Nat.le_of_ble_eq_true rfl) (Nat.le_of_ble_eq_true rfl) rfl rfl dX5_readProduct_8 rfl (c_X5_productSignF hRK hT3 kn3 ?_)
    refine Kq_i (k' := 0) (sl' := 0) rfl rfl ?_
    refine V_istore 13 [(4, .int (-1)), (3, .int v3), (0, rf G l), (1, rf G 1), (2, .int (nI o))] (by decide) rfl dX5_readProduct_11 rfl ?_
    refine V_iconst 14 (0) rfl dX5_readProduct_13 rfl ?_
    refine V_istore 16 [(5, .int 0), (4, .int (-1)), (3, .int v3), (0, rf G l), (1, rf G 1), (2, .int (nI o))] (by decide) rfl dX5_readProduct_14 rfl ?_
    exact V_lv [0, 1, 2, 3, 4, 5] rfl (hexit _ _ _ _ _ _ _ hk3 hk33 hq3 hp3 h43 h53 hF3 (bd_no eq3))
set_option maxHeartbeats 8000000 in
theorem c_X5_readSum {G : Gx} {t : Nat → Nat} {z o D0 : Nat} {u : Nat → FT ⊕ (LE × Nat)} (hU : LCt G mX5_readProduct D0 [.int (nI o)] t z u) : LCt G mX5_readSum (D0 + 10) [.int (nI o)] t z (fun p => bd (u p) (fun x => pSumL u t z z x.1 x.2)) := by
  intro d I R J Q l p s fp hd hRK hl hT h150 hp hs hLB hk hb
  obtain ⟨m, rfl⟩ : ∃ m, d = m + 10 := ⟨d - 10, by omega⟩
  have h6 := hT.2.1
  have hexit : ∀ (i v : Int32) p1 I1 k q s1, 0 < k → k ≤ 3 → q ≤ z → p1 ≤ z → I1 l 4 = nI s1 → s1 ≤ 150 → FrL I I1 l → bd (u p) (fun x => pSumL u t z z x.1 x.2) = .inl (k, q) → V G mX5_readSum (m + 10) 0 0 0 0 10 [(4, .int i), (3, .int v), (0, rf G l), (1, rf G 1), (2, .int (nI o))] [] 103 (tp t z I1 p1 (nI k) (nI q)) R J Q := by
    intro i v p1 I1 k q s1 hk1 hk3 hq hp1 h4 h5 hF e1
    have hT1 := hF.T hl hT
    have kn := kd_ne hk1 hk3
    refine V_iload 12 0 rfl dX5_readSum_10 rfl ?_
    refine V_sipush 15 (150) rfl dX5_readSum_12 rfl ?_
    refine V_icmp_ge 76 18 rfl dX5_readSum_15 rfl (fun c15 => ?_) (fun c15 => ?_)
    · refine V_iload_n 77 1 rfl rfl dX5_readSum_76 rfl ?_
      refine V_ret_i rfl rfl (Nat.le_of_ble_eq_true rfl) (fun h => absurd h (by decide)) (Nat.le_of_ble_eq_true rfl) (hb _ _ _ _ _ _ e1 hk1 hk3 hq hp1 h4 h5 hF) dX5_readSum_77
    · refine V_aload_n 19 3 rfl _ rfl rfl dX5_readSum_18 rfl ?_
      refine V_bipush 21 (43) rfl dX5_readSum_19 rfl ?_
      refine V_callV (K' := 0) (S' := 0) 24 1 8 1 [.int 43] mkX8_isSign lkX5_55 (by decide) rfl rfl (by decide) rfl (Nat.le_of_ble_eq_true rfl) (Nat.le_of_ble_eq_true rfl) (Nat.le_of_ble_eq_true rfl) (Nat.le_of_ble_eq_true rfl) rfl rfl dX5_readSum_21 rfl (c_X8_isSign (c := 43) hRK hT1 (by decide) (by decide) (by decide) (fun e _ _ => absurd e kn) (fun _ => ?_))
      refine Kq_i (k' := 0) (sl' := 0) rfl rfl ?_
      refine V_if_ne 36 27 rfl dX5_readSum_24 rfl (fun c24 => absurd c24 (by decide)) (fun c24 => ?_)
      refine V_aload_n 28 3 rfl _ rfl rfl dX5_readSum_27 rfl ?_
      refine V_bipush 30 (45) rfl dX5_readSum_28 rfl ?_
      refine V_callV (K' := 0) (S' := 0) 33 1 8 1 [.int 45] mkX8_isSign lkX5_55 (by decide) rfl rfl (by decide) rfl (Nat.le_of_ble_eq_true rfl) (Nat.le_of_ble_eq_true rfl) (Nat.le_of_ble_eq_true rfl) (Nat.le_of_ble_eq_true rfl) rfl rfl dX5_readSum_30 rfl (c_X8_isSign (c := 45) hRK hT1 (by decide) (by decide) (by decide) (fun e _ _ => absurd e kn) (fun _ => ?_))
      refine Kq_i (k' := 0) (sl' := 0) rfl rfl ?_
      refine V_if_eq 76 36 rfl dX5_readSum_33 rfl (fun c33 => ?_) (fun c33 => absurd c33 (by decide))
      refine V_iload_n 77 1 rfl rfl dX5_readSum_76 rfl ?_
      refine V_ret_i rfl rfl (Nat.le_of_ble_eq_true rfl) (fun h => absurd h (by decide)) (Nat.le_of_ble_eq_true rfl) (hb _ _ _ _ _ _ e1 hk1 hk3 hq hp1 h4 h5 hF) dX5_readSum_77
  have L : ∀ f i r1 s1 e1 p1 I1, z - p1 ≤ f → i ≤ p1 → p < p1 → p1 ≤ z → r1 + 1 = s1 → s < s1 → s1 + p ≤ s + p1 → LB I1 l s1 → VB I1 l r1 e1 → Ext I I1 l s → FrL I I1 l → bd (u p) (fun x => pSumL u t z z x.1 x.2) = pSumL u t z f e1 p1 → V G mX5_readSum (m + 10) 0 0 0 0 10 [(4, .int (nI i)), (3, .int (nI r1)), (0, rf G l), (1, rf G 1), (2, .int (nI o))] [] 103 (tp t z I1 p1 0 fp) R J Q := by
    intro f
    induction f with
    | zero =>
      intro i r1 s1 e1 p1 I1 hf hi hlt hp1 hr hss hsz hLB1 hV1 hE1 hF1 eq
      have hT1 := hF1.T hl hT
      have cs : ¬ (p1 < z ∧ (t p1 = 43 ∨ t p1 = 45)) := fun q => by omega
      refine V_iload 12 0 rfl dX5_readSum_10 rfl ?_
      refine V_sipush 15 (150) rfl dX5_readSum_12 rfl ?_
      refine V_icmp_ge 76 18 rfl dX5_readSum_15 rfl (fun c15 => ?_) (fun c15 => ?_)
      · refine V_iload_n 77 1 rfl rfl dX5_readSum_76 rfl ?_
        refine V_ret_i rfl rfl (Nat.le_of_ble_eq_true rfl) (fun h => absurd h (by decide)) (Nat.le_of_ble_eq_true rfl) (hk e1 p1 I1 s1 r1 eq hlt hp1 hr hss hsz hLB1 hV1 hE1 hF1) dX5_readSum_77
      · refine V_aload_n 19 3 rfl _ rfl rfl dX5_readSum_18 rfl ?_
        refine V_bipush 21 (43) rfl dX5_readSum_19 rfl ?_
        refine V_callV (K' := 0) (S' := 0) 24 1 8 1 [.int 43] mkX8_isSign lkX5_55 (by decide) rfl rfl (by decide) rfl (Nat.le_of_ble_eq_true rfl) (Nat.le_of_ble_eq_true rfl) (Nat.le_of_ble_eq_true rfl) (Nat.le_of_ble_eq_true rfl) rfl rfl dX5_readSum_21 rfl (c_X8_isSign (c := 43) hRK hT1 (by decide) (by decide) (by decide) (fun _ q1 q2 => absurd ⟨q1, Or.inl q2⟩ cs) (fun _ => ?_))
        refine Kq_i (k' := 0) (sl' := 0) rfl rfl ?_
        refine V_if_ne 36 27 rfl dX5_readSum_24 rfl (fun c24 => absurd c24 (by decide)) (fun c24 => ?_)
        refine V_aload_n 28 3 rfl _ rfl rfl dX5_readSum_27 rfl ?_
        refine V_bipush 30 (45) rfl dX5_readSum_28 rfl ?_
        refine V_callV (K' := 0) (S' := 0) 33 1 8 1 [.int 45] mkX8_isSign lkX5_55 (by decide) rfl rfl (by decide) rfl (Nat.le_of_ble_eq_true rfl) (Nat.le_of_ble_eq_true rfl) (Nat.le_of_ble_eq_true rfl) (Nat.le_of_ble_eq_true rfl) rfl rfl dX5_readSum_30 rfl (c_X8_isSign (c := 45) hRK hT1 (by decide) (by decide) (by decide) (fun _ q1 q2 => absurd ⟨q1, Or.inr q2⟩ cs) (fun _ => ?_))
        refine Kq_i (k' := 0) (sl' := 0) rfl rfl ?_
        refine V_if_eq 76 36 rfl dX5_readSum_33 rfl (fun c33 => ?_) (fun c33 => absurd c33 (by decide))
        refine V_iload_n 77 1 rfl rfl dX5_readSum_76 rfl ?_
        refine V_ret_i rfl rfl (Nat.le_of_ble_eq_true rfl) (fun h => absurd h (by decide)) (Nat.le_of_ble_eq_true rfl) (hk e1 p1 I1 s1 r1 eq hlt hp1 hr hss hsz hLB1 hV1 hE1 hF1) dX5_readSum_77
    | succ f ih =>
      intro i r1 s1 e1 p1 I1 hf hi hlt hp1 hr hss hsz hLB1 hV1 hE1 hF1 eq
      have hT1 := hF1.T hl hT
      rw [pSumL] at eq
      by_cases cs : p1 < z ∧ (t p1 = 43 ∨ t p1 = 45)
      · have n3 := (nx_z (t := t) hp1).2.2 cs.1
        rcases cs.2 with c4 | c4
        · refine V_iload 12 0 rfl dX5_readSum_10 rfl ?_
          refine V_sipush 15 (150) rfl dX5_readSum_12 rfl ?_
          refine V_icmp_ge 76 18 rfl dX5_readSum_15 rfl (fun c15 => absurd c15 (nI_ge (b := 150) (by omega) (by decide))) (fun c15 => ?_)
          refine V_aload_n 19 3 rfl _ rfl rfl dX5_readSum_18 rfl ?_
          refine V_bipush 21 (43) rfl dX5_readSum_19 rfl ?_
          refine V_callV (K' := 0) (S' := 0) 24 1 8 1 [.int 43] mkX8_isSign lkX5_55 (by decide) rfl rfl (by decide) rfl (Nat.le_of_ble_eq_true rfl) (Nat.le_of_ble_eq_true rfl) (Nat.le_of_ble_eq_true rfl) (Nat.le_of_ble_eq_true rfl) rfl rfl dX5_readSum_21 rfl (c_X8_isSign (c := 43) hRK hT1 (by decide) (by decide) (by decide) (fun _ _ _ => ?_) (fun q => absurd ⟨rfl, cs.1, c4⟩ q))
          refine Kq_i (k' := 0) (sl' := 0) rfl rfl ?_
          refine V_if_ne 36 27 rfl dX5_readSum_24 rfl (fun c24 => ?_) (fun c24 => absurd c24 (by decide))
          refine V_aload_n 37 3 rfl _ rfl rfl dX5_readSum_36 rfl ?_
          refine V_bipush 39 (43) rfl dX5_readSum_37 rfl ?_
          refine V_callV (K' := 0) (S' := 0) 42 1 8 1 [.int 43] mkX8_isSign lkX5_55 (by decide) rfl rfl (by decide) rfl (Nat.le_of_ble_eq_true rfl) (Nat.le_of_ble_eq_true rfl) (Nat.le_of_ble_eq_true rfl) (Nat.le_of_ble_eq_true rfl) rfl rfl dX5_readSum_39 rfl (c_X8_isSign (c := 43) hRK hT1 (by decide) (by decide) (by decide) (fun _ _ _ => ?_) (fun q => absurd ⟨rfl, cs.1, c4⟩ q))
          refine Kq_i (k' := 0) (sl' := 0) rfl rfl ?_
          refine V_if_eq 49 45 rfl dX5_readSum_42 rfl (fun c42 => absurd c42 (by decide)) (fun c42 => ?_)
          refine V_iconst 46 (2) rfl dX5_readSum_45 rfl ?_
          refine V_goto 50 rfl dX5_readSum_46 ?_
          refine V_rw (show (2 : Int32) = nI (opN (t p1)) from by rw [c4]; rfl) ?_
          refine V_istore 52 [(5, .int (nI (opN (t p1)))), (4, .int (nI i)), (3, .int (nI r1)), (0, rf G l), (1, rf G 1), (2, .int (nI o))] (by decide) rfl dX5_readSum_50 rfl ?_
          refine V_aload_n 53 4 rfl _ rfl rfl dX5_readSum_52 rfl ?_
          refine V_callV (K' := 0) (S' := 0) 56 1 8 0 [] mkX8_next lkX5_59 (by decide) rfl rfl (by decide) rfl (Nat.le_of_ble_eq_true rfl) (Nat.le_of_ble_eq_true rfl) (Nat.le_of_ble_eq_true rfl) (Nat.le_of_ble_eq_true rfl) rfl rfl dX5_readSum_53 rfl (c_X8_next hRK hT1 (enF_z hp1).2.1 ?_)
          refine Kq_v (k' := 0) (sl' := 0) rfl rfl ?_
          refine V_aload_n 57 3 rfl _ rfl rfl dX5_readSum_56 rfl ?_
          refine V_iload 59 0 rfl dX5_readSum_57 rfl ?_
          refine V_iload_n 60 2 rfl rfl dX5_readSum_59 rfl ?_
          refine V_aload_n 61 3 rfl _ rfl rfl dX5_readSum_60 rfl ?_
          refine V_aload_n 62 4 rfl _ rfl rfl dX5_readSum_61 rfl ?_
          refine V_iload_n 63 5 rfl rfl dX5_readSum_62 rfl ?_
          refine V_callV (K' := 0) (S' := 0) 66 l 5 2 [rf G 1, .int (nI o)] mkX5_readProduct lkX5_52 (by decide) rfl (ly_l hl).1 (by omega) rfl (Nat.le_of_ble_eq_true rfl) (Nat.le_of_ble_eq_true rfl) (Nat.le_of_ble_eq_true rfl) (Nat.le_of_ble_eq_true rfl) rfl rfl dX5_readSum_63 rfl (hU _ _ _ _ _ l (nx t z p1) s1 _ (by omega) hRK hl hT1 h150 (nx_z hp1).2.1 (by omega) hLB1 (fun e63 p63 I63 s63 r63 eq63 lt63 hp63 hr63 hs63 hss63 hLB63 hV63 hE63 hF63 => ?_) (fun k63 q63 p63 I63 v63 s63 eq63 hk63 hk363 hq63 hp63 h463 h563 hF63 => ?_))
          · refine Kq_i (k' := 0) (sl' := 0) rfl rfl ?_
            have hT63 := hF63.T hl hT1
            have hj66 := jn_o (k := opN (t p1)) hLB63 (by omega) (op_2 _) (op_8 _) (show r1 < s63 by omega) (show r63 < s63 by omega) (hV1.ext hE63 (by omega)) hV63
            refine V_callV (K' := 0) (S' := 0) 69 l 5 3 [.int (nI (opN (t p1))), .int (nI r1), .int (nI r63)] mkX5_join lkX5_31 (by decide) rfl (ly_l hl).1 (by omega) rfl (Nat.le_of_ble_eq_true rfl) (Nat.le_of_ble_eq_true rfl) (Nat.le_of_ble_eq_true rfl) (Nat.le_of_ble_eq_true rfl) rfl rfl dX5_readSum_66 rfl (c_X5_joinT hRK hl hLB63.1 (by omega) ?_)
            refine Kq_i (k' := 0) (sl' := 0) rfl rfl ?_
            refine V_istore_n 70 [(3, .int (nI s63)), (5, .int (nI (opN (t p1)))), (4, .int (nI i)), (0, rf G l), (1, rf G 1), (2, .int (nI o))] (by decide) rfl rfl dX5_readSum_69 rfl ?_
            refine V_iinc 73 2 rfl (nI (i + 1)) [(4, .int (nI (i + 1))), (3, .int (nI s63)), (5, .int (nI (opN (t p1)))), (0, rf G l), (1, rf G 1), (2, .int (nI o))] (nI_1 _) (by decide) rfl dX5_readSum_70 rfl ?_
            refine V_goto 10 rfl dX5_readSum_73 ?_
            exact V_lv [0, 1, 3, 4, 5] rfl (ih (i + 1) s63 (s63 + 1) _ p63 _ (by omega) (by omega) (by omega) hp63 (by omega) (by omega) (by omega) hj66.1 hj66.2 ((hE1.tr hE63 (by omega)).tr jn_ext (by omega)) ((hF1.tr hF63).tr jn_fr) (eq.trans ((if_pos cs).trans (bd_ok eq63))))
          · refine Kq_i (k' := 0) (sl' := 0) rfl rfl ?_
            have hT63 := hF63.T hl hT1
            have kn63 := kd_ne hk63 hk363
            refine V_callV (K' := 0) (S' := 0) 69 l 5 3 [.int (nI (opN (t p1))), .int (nI r1), .int v63] mkX5_join lkX5_31 (by decide) rfl (ly_l hl).1 (by omega) rfl (Nat.le_of_ble_eq_true rfl) (Nat.le_of_ble_eq_true rfl) (Nat.le_of_ble_eq_true rfl) (Nat.le_of_ble_eq_true rfl) rfl rfl dX5_readSum_66 rfl (c_X5_joinTB hRK hl h463 h563 (fun v66 I66 s66 h466 h566 hF66 => ?_))
            refine Kq_i (k' := 0) (sl' := 0) rfl rfl ?_
            have hT66 := hF66.T hl hT63
            refine V_istore_n 70 [(3, .int v66), (5, .int (nI (opN (t p1)))), (4, .int (nI i)), (0, rf G l), (1, rf G 1), (2, .int (nI o))] (by decide) rfl rfl dX5_readSum_69 rfl ?_
            refine V_iinc 73 2 rfl (nI (i + 1)) [(4, .int (nI (i + 1))), (3, .int v66), (5, .int (nI (opN (t p1)))), (0, rf G l), (1, rf G 1), (2, .int (nI o))] (nI_1 _) (by decide) rfl dX5_readSum_70 rfl ?_
            refine V_goto 10 rfl dX5_readSum_73 ?_
            exact V_lv [0, 1, 3, 4, 5] rfl (hexit _ _ _ _ _ _ _ hk63 hk363 hq63 hp63 h466 h566 ((hF1.tr hF63).tr hF66) (eq.trans ((if_pos cs).trans (bd_no eq63))))
        · refine V_iload 12 0 rfl dX5_readSum_10 rfl ?_
          refine V_sipush 15 (150) rfl dX5_readSum_12 rfl ?_
          refine V_icmp_ge 76 18 rfl dX5_readSum_15 rfl (fun c15 => absurd c15 (nI_ge (b := 150) (by omega) (by decide))) (fun c15 => ?_)
          refine V_aload_n 19 3 rfl _ rfl rfl dX5_readSum_18 rfl ?_
          refine V_bipush 21 (43) rfl dX5_readSum_19 rfl ?_
          refine V_callV (K' := 0) (S' := 0) 24 1 8 1 [.int 43] mkX8_isSign lkX5_55 (by decide) rfl rfl (by decide) rfl (Nat.le_of_ble_eq_true rfl) (Nat.le_of_ble_eq_true rfl) (Nat.le_of_ble_eq_true rfl) (Nat.le_of_ble_eq_true rfl) rfl rfl dX5_readSum_21 rfl (c_X8_isSign (c := 43) hRK hT1 (by decide) (by decide) (by decide) (fun _ _ q => by omega) (fun _ => ?_))
          refine Kq_i (k' := 0) (sl' := 0) rfl rfl ?_
          refine V_if_ne 36 27 rfl dX5_readSum_24 rfl (fun c24 => absurd c24 (by decide)) (fun c24 => ?_)
          refine V_aload_n 28 3 rfl _ rfl rfl dX5_readSum_27 rfl ?_
          refine V_bipush 30 (45) rfl dX5_readSum_28 rfl ?_
          refine V_callV (K' := 0) (S' := 0) 33 1 8 1 [.int 45] mkX8_isSign lkX5_55 (by decide) rfl rfl (by decide) rfl (Nat.le_of_ble_eq_true rfl) (Nat.le_of_ble_eq_true rfl) (Nat.le_of_ble_eq_true rfl) (Nat.le_of_ble_eq_true rfl) rfl rfl dX5_readSum_30 rfl (c_X8_isSign (c := 45) hRK hT1 (by decide) (by decide) (by decide) (fun _ _ _ => ?_) (fun q => absurd ⟨rfl, cs.1, c4⟩ q))
          refine Kq_i (k' := 0) (sl' := 0) rfl rfl ?_
          refine V_if_eq 76 36 rfl dX5_readSum_33 rfl (fun c33 => absurd c33 (by decide)) (fun c33 => ?_)
          refine V_aload_n 37 3 rfl _ rfl rfl dX5_readSum_36 rfl ?_
          refine V_bipush 39 (43) rfl dX5_readSum_37 rfl ?_
          refine V_callV (K' := 0) (S' := 0) 42 1 8 1 [.int 43] mkX8_isSign lkX5_55 (by decide) rfl rfl (by decide) rfl (Nat.le_of_ble_eq_true rfl) (Nat.le_of_ble_eq_true rfl) (Nat.le_of_ble_eq_true rfl) (Nat.le_of_ble_eq_true rfl) rfl rfl dX5_readSum_39 rfl (c_X8_isSign (c := 43) hRK hT1 (by decide) (by decide) (by decide) (fun _ _ q => by omega) (fun _ => ?_))
          refine Kq_i (k' := 0) (sl' := 0) rfl rfl ?_
          refine V_if_eq 49 45 rfl dX5_readSum_42 rfl (fun c42 => ?_) (fun c42 => absurd c42 (by decide))
          refine V_iconst 50 (3) rfl dX5_readSum_49 rfl ?_
          refine V_rw (show (3 : Int32) = nI (opN (t p1)) from by rw [c4]; rfl) ?_
          refine V_istore 52 [(5, .int (nI (opN (t p1)))), (4, .int (nI i)), (3, .int (nI r1)), (0, rf G l), (1, rf G 1), (2, .int (nI o))] (by decide) rfl dX5_readSum_50 rfl ?_
          refine V_aload_n 53 4 rfl _ rfl rfl dX5_readSum_52 rfl ?_
          refine V_callV (K' := 0) (S' := 0) 56 1 8 0 [] mkX8_next lkX5_59 (by decide) rfl rfl (by decide) rfl (Nat.le_of_ble_eq_true rfl) (Nat.le_of_ble_eq_true rfl) (Nat.le_of_ble_eq_true rfl) (Nat.le_of_ble_eq_true rfl) rfl rfl dX5_readSum_53 rfl (c_X8_next hRK hT1 (enF_z hp1).2.1 ?_)
          refine Kq_v (k' := 0) (sl' := 0) rfl rfl ?_
          refine V_aload_n 57 3 rfl _ rfl rfl dX5_readSum_56 rfl ?_
          refine V_iload 59 0 rfl dX5_readSum_57 rfl ?_
          refine V_iload_n 60 2 rfl rfl dX5_readSum_59 rfl ?_
          refine V_aload_n 61 3 rfl _ rfl rfl dX5_readSum_60 rfl ?_
          refine V_aload_n 62 4 rfl _ rfl rfl dX5_readSum_61 rfl ?_
          refine V_iload_n 63 5 rfl rfl dX5_readSum_62 rfl ?_
          refine V_callV (K' := 0) (S' := 0) 66 l 5 2 [rf G 1, .int (nI o)] mkX5_readProduct lkX5_52 (by decide) rfl (ly_l hl).1 (by omega) rfl (Nat.le_of_ble_eq_true rfl) (Nat.le_of_ble_eq_true rfl) (Nat.le_of_ble_eq_true rfl) (Nat.le_of_ble_eq_true rfl) rfl rfl dX5_readSum_63 rfl (hU _ _ _ _ _ l (nx t z p1) s1 _ (by omega) hRK hl hT1 h150 (nx_z hp1).2.1 (by omega) hLB1 (fun e63 p63 I63 s63 r63 eq63 lt63 hp63 hr63 hs63 hss63 hLB63 hV63 hE63 hF63 => ?_) (fun k63 q63 p63 I63 v63 s63 eq63 hk63 hk363 hq63 hp63 h463 h563 hF63 => ?_))
          · refine Kq_i (k' := 0) (sl' := 0) rfl rfl ?_
            have hT63 := hF63.T hl hT1
            have hj66 := jn_o (k := opN (t p1)) hLB63 (by omega) (op_2 _) (op_8 _) (show r1 < s63 by omega) (show r63 < s63 by omega) (hV1.ext hE63 (by omega)) hV63
            refine V_callV (K' := 0) (S' := 0) 69 l 5 3 [.int (nI (opN (t p1))), .int (nI r1), .int (nI r63)] mkX5_join lkX5_31 (by decide) rfl (ly_l hl).1 (by omega) rfl (Nat.le_of_ble_eq_true rfl) (Nat.le_of_ble_eq_true rfl) (Nat.le_of_ble_eq_true rfl) (Nat.le_of_ble_eq_true rfl) rfl rfl dX5_readSum_66 rfl (c_X5_joinT hRK hl hLB63.1 (by omega) ?_)
            refine Kq_i (k' := 0) (sl' := 0) rfl rfl ?_
            refine V_istore_n 70 [(3, .int (nI s63)), (5, .int (nI (opN (t p1)))), (4, .int (nI i)), (0, rf G l), (1, rf G 1), (2, .int (nI o))] (by decide) rfl rfl dX5_readSum_69 rfl ?_
            refine V_iinc 73 2 rfl (nI (i + 1)) [(4, .int (nI (i + 1))), (3, .int (nI s63)), (5, .int (nI (opN (t p1)))), (0, rf G l), (1, rf G 1), (2, .int (nI o))] (nI_1 _) (by decide) rfl dX5_readSum_70 rfl ?_
            refine V_goto 10 rfl dX5_readSum_73 ?_
            exact V_lv [0, 1, 3, 4, 5] rfl (ih (i + 1) s63 (s63 + 1) _ p63 _ (by omega) (by omega) (by omega) hp63 (by omega) (by omega) (by omega) hj66.1 hj66.2 ((hE1.tr hE63 (by omega)).tr jn_ext (by omega)) ((hF1.tr hF63).tr jn_fr) (eq.trans ((if_pos cs).trans (bd_ok eq63))))
          · refine Kq_i (k' := 0) (sl' := 0) rfl rfl ?_
            have hT63 := hF63.T hl hT1
            have kn63 := kd_ne hk63 hk363
            refine V_callV (K' := 0) (S' := 0) 69 l 5 3 [.int (nI (opN (t p1))), .int (nI r1), .int v63] mkX5_join lkX5_31 (by decide) rfl (ly_l hl).1 (by omega) rfl (Nat.le_of_ble_eq_true rfl) (Nat.le_of_ble_eq_true rfl) (Nat.le_of_ble_eq_true rfl) (Nat.le_of_ble_eq_true rfl) rfl rfl dX5_readSum_66 rfl (c_X5_joinTB hRK hl h463 h563 (fun v66 I66 s66 h466 h566 hF66 => ?_))
            refine Kq_i (k' := 0) (sl' := 0) rfl rfl ?_
            have hT66 := hF66.T hl hT63
            refine V_istore_n 70 [(3, .int v66), (5, .int (nI (opN (t p1)))), (4, .int (nI i)), (0, rf G l), (1, rf G 1), (2, .int (nI o))] (by decide) rfl rfl dX5_readSum_69 rfl ?_
            refine V_iinc 73 2 rfl (nI (i + 1)) [(4, .int (nI (i + 1))), (3, .int v66), (5, .int (nI (opN (t p1)))), (0, rf G l), (1, rf G 1), (2, .int (nI o))] (nI_1 _) (by decide) rfl dX5_readSum_70 rfl ?_
            refine V_goto 10 rfl dX5_readSum_73 ?_
            exact V_lv [0, 1, 3, 4, 5] rfl (hexit _ _ _ _ _ _ _ hk63 hk363 hq63 hp63 h466 h566 ((hF1.tr hF63).tr hF66) (eq.trans ((if_pos cs).trans (bd_no eq63))))
      · refine V_iload 12 0 rfl dX5_readSum_10 rfl ?_
        refine V_sipush 15 (150) rfl dX5_readSum_12 rfl ?_
        refine V_icmp_ge 76 18 rfl dX5_readSum_15 rfl (fun c15 => ?_) (fun c15 => ?_)
        · refine V_iload_n 77 1 rfl rfl dX5_readSum_76 rfl ?_
          refine V_ret_i rfl rfl (Nat.le_of_ble_eq_true rfl) (fun h => absurd h (by decide)) (Nat.le_of_ble_eq_true rfl) (hk e1 p1 I1 s1 r1 (eq.trans (if_neg cs)) hlt hp1 hr hss hsz hLB1 hV1 hE1 hF1) dX5_readSum_77
        · refine V_aload_n 19 3 rfl _ rfl rfl dX5_readSum_18 rfl ?_
          refine V_bipush 21 (43) rfl dX5_readSum_19 rfl ?_
          refine V_callV (K' := 0) (S' := 0) 24 1 8 1 [.int 43] mkX8_isSign lkX5_55 (by decide) rfl rfl (by decide) rfl (Nat.le_of_ble_eq_true rfl) (Nat.le_of_ble_eq_true rfl) (Nat.le_of_ble_eq_true rfl) (Nat.le_of_ble_eq_true rfl) rfl rfl dX5_readSum_21 rfl (c_X8_isSign (c := 43) hRK hT1 (by decide) (by decide) (by decide) (fun _ q1 q2 => absurd ⟨q1, Or.inl q2⟩ cs) (fun _ => ?_))
          refine Kq_i (k' := 0) (sl' := 0) rfl rfl ?_
          refine V_if_ne 36 27 rfl dX5_readSum_24 rfl (fun c24 => absurd c24 (by decide)) (fun c24 => ?_)
          refine V_aload_n 28 3 rfl _ rfl rfl dX5_readSum_27 rfl ?_
          refine V_bipush 30 (45) rfl dX5_readSum_28 rfl ?_
          refine V_callV (K' := 0) (S' := 0) 33 1 8 1 [.int 45] mkX8_isSign lkX5_55 (by decide) rfl rfl (by decide) rfl (Nat.le_of_ble_eq_true rfl) (Nat.le_of_ble_eq_true rfl) (Nat.le_of_ble_eq_true rfl) (Nat.le_of_ble_eq_true rfl) rfl rfl dX5_readSum_30 rfl (c_X8_isSign (c := 45) hRK hT1 (by decide) (by decide) (by decide) (fun _ q1 q2 => absurd ⟨q1, Or.inr q2⟩ cs) (fun _ => ?_))
          refine Kq_i (k' := 0) (sl' := 0) rfl rfl ?_
          refine V_if_eq 76 36 rfl dX5_readSum_33 rfl (fun c33 => ?_) (fun c33 => absurd c33 (by decide))
          refine V_iload_n 77 1 rfl rfl dX5_readSum_76 rfl ?_
          refine V_ret_i rfl rfl (Nat.le_of_ble_eq_true rfl) (fun h => absurd h (by decide)) (Nat.le_of_ble_eq_true rfl) (hk e1 p1 I1 s1 r1 (eq.trans (if_neg cs)) hlt hp1 hr hss hsz hLB1 hV1 hE1 hF1) dX5_readSum_77
  show V _ _ _ _ _ _ _ _ [(0, rf G l), (1, rf G 1), (2, .int (nI o))] [] _ _ _ _ _
  refine V_aload_n 1 0 rfl _ rfl rfl dX5_readSum_0 rfl ?_
  refine V_aload_n 2 1 rfl _ rfl rfl dX5_readSum_1 rfl ?_
  refine V_iload_n 3 2 rfl rfl dX5_readSum_2 rfl ?_
  refine V_callV (K' := 0) (S' := 0) 6 l 5 2 [rf G 1, .int (nI o)] mkX5_readProduct lkX5_52 (by decide) rfl (ly_l hl).1 (by omega) rfl (Nat.le_of_ble_eq_true rfl) (Nat.le_of_ble_eq_true rfl) (Nat.le_of_ble_eq_true rfl) (Nat.le_of_ble_eq_true rfl) rfl rfl dX5_readSum_3 rfl (hU _ _ _ _ _ l p s _ (by omega) hRK hl hT h150 hp (by omega) hLB (fun e3 p3 I3 s3 r3 eq3 lt3 hp3 hr3 hs3 hss3 hLB3 hV3 hE3 hF3 => ?_) (fun k3 q3 p3 I3 v3 s3 eq3 hk3 hk33 hq3 hp3 h43 h53 hF3 => ?_))
  · refine Kq_i (k' := 0) (sl' := 0) rfl rfl ?_
    have hT3 := hF3.T hl hT
    refine V_istore_n 7 [(3, .int (nI r3)), (0, rf G l), (1, rf G 1), (2, .int (nI o))] (by decide) rfl rfl dX5_readSum_6 rfl ?_
    refine V_iconst 8 (0) rfl dX5_readSum_7 rfl ?_
    refine V_istore 10 [(4, .int 0), (3, .int (nI r3)), (0, rf G l), (1, rf G 1), (2, .int (nI o))] (by decide) rfl dX5_readSum_8 rfl ?_
    exact V_lv [0, 1, 2, 3, 4] rfl (L z 0 r3 s3 e3 p3 I3 (by omega) (by omega) lt3 hp3 hr3 hs3 hss3 hLB3 hV3 hE3 hF3 (bd_ok eq3))
  · refine Kq_i (k' := 0) (sl' := 0) rfl rfl ?_
    have hT3 := hF3.T hl hT
    have kn3 := kd_ne hk3 hk33
    refine V_istore_n 7 [(3, .int v3), (0, rf G l), (1, rf G 1), (2, .int (nI o))] (by decide) rfl rfl dX5_readSum_6 rfl ?_
    refine V_iconst 8 (0) rfl dX5_readSum_7 rfl ?_
    refine V_istore 10 [(4, .int 0), (3, .int v3), (0, rf G l), (1, rf G 1), (2, .int (nI o))] (by decide) rfl dX5_readSum_8 rfl ?_
    exact V_lv [0, 1, 2, 3, 4] rfl (hexit _ _ _ _ _ _ _ hk3 hk33 hq3 hp3 h43 h53 hF3 (bd_no eq3))
set_option maxHeartbeats 8000000 in
theorem c_X5_readInner {G : Gx} {t : Nat → Nat} {z o D0 : Nat} {u : Nat → FT ⊕ (LE × Nat)} (hU : LCt G mX5_readSum D0 [.int (nI o)] t z u) : LCt G mX5_readInner (D0 + 10) [.int (nI o)] t z (pInner u t z) := by
  intro d I R J Q l p s fp hd hRK hl hT h150 hp hs hLB hk hb
  obtain ⟨m, rfl⟩ : ∃ m, d = m + 10 := ⟨d - 10, by omega⟩
  have h6 := hT.2.1
  obtain ⟨n1, n2, n3⟩ := nx_z (t := t) hp
  have nxe : nx t z p = sk t z (enF t z p) := rfl
  show V _ _ _ _ _ _ _ _ [(0, rf G l), (1, rf G 1), (2, .int (nI o))] [] _ _ _ _ _
  refine V_aload_n 1 1 rfl _ rfl rfl dX5_readInner_0 rfl ?_
  refine V_callV (K' := 0) (S' := 0) 4 1 8 0 [] mkX8_next lkX5_59 (by decide) rfl rfl (by decide) rfl (Nat.le_of_ble_eq_true rfl) (Nat.le_of_ble_eq_true rfl) (Nat.le_of_ble_eq_true rfl) (Nat.le_of_ble_eq_true rfl) rfl rfl dX5_readInner_1 rfl (c_X8_next hRK hT (enF_z hp).2.1 ?_)
  refine Kq_v (k' := 0) (sl' := 0) rfl rfl ?_
  refine V_aload_n 5 0 rfl _ rfl rfl dX5_readInner_4 rfl ?_
  refine V_aload_n 6 1 rfl _ rfl rfl dX5_readInner_5 rfl ?_
  refine V_iload_n 7 2 rfl rfl dX5_readInner_6 rfl ?_
  refine V_callV (K' := 0) (S' := 0) 10 l 5 2 [rf G 1, .int (nI o)] mkX5_readSum lkX5_35 (by decide) rfl (ly_l hl).1 (by omega) rfl (Nat.le_of_ble_eq_true rfl) (Nat.le_of_ble_eq_true rfl) (Nat.le_of_ble_eq_true rfl) (Nat.le_of_ble_eq_true rfl) rfl rfl dX5_readInner_7 rfl (hU _ _ _ _ _ l (nx t z p) s _ (by omega) hRK hl hT h150 (nx_z hp).2.1 (by omega) hLB (fun e7 p7 I7 s7 r7 eq7 lt7 hp7 hr7 hs7 hss7 hLB7 hV7 hE7 hF7 => ?_) (fun k7 q7 p7 I7 v7 s7 eq7 hk7 hk37 hq7 hp7 h47 h57 hF7 => ?_))
  · refine Kq_i (k' := 0) (sl' := 0) rfl rfl ?_
    have hT7 := hF7.T hl hT
    refine V_istore_n 11 [(3, .int (nI r7)), (0, rf G l), (1, rf G 1), (2, .int (nI o))] (by decide) rfl rfl dX5_readInner_10 rfl ?_
    refine V_aload_n 12 2 rfl _ rfl rfl dX5_readInner_11 rfl ?_
    refine V_bipush 14 (41) rfl dX5_readInner_12 rfl ?_
    refine V_callV (K' := 0) (S' := 0) 17 1 8 1 [.int 41] mkX8_takeSign lkX5_94 (by decide) rfl rfl (by decide) rfl (Nat.le_of_ble_eq_true rfl) (Nat.le_of_ble_eq_true rfl) (Nat.le_of_ble_eq_true rfl) (Nat.le_of_ble_eq_true rfl) rfl rfl dX5_readInner_14 rfl (c_X8_takeSign (c := 41) hRK hT7 (by decide) (by decide) (by decide) hp7 (fun e => absurd rfl e) (fun p14 _ e14 => ?_) (fun _ e14 => ?_))
    · refine Kq_v (k' := 0) (sl' := 0) rfl rfl ?_
      obtain ⟨-, -, -, lt14, hp14⟩ := pSig_ok e14
      refine V_iload_n 18 0 rfl rfl dX5_readInner_17 rfl ?_
      refine V_ret_i rfl rfl (Nat.le_of_ble_eq_true rfl) (fun h => absurd h (by decide)) (Nat.le_of_ble_eq_true rfl) (hk e7 p14 I7 s7 r7 ((bd_ok eq7).trans (bd_ok e14)) (by omega) hp14 hr7 hs7 (by omega) hLB7 hV7 hE7 hF7) dX5_readInner_18
    · refine Kq_v (k' := 0) (sl' := 0) rfl rfl ?_
      refine V_iload_n 18 0 rfl rfl dX5_readInner_17 rfl ?_
      refine V_ret_i rfl rfl (Nat.le_of_ble_eq_true rfl) (fun h => absurd h (by decide)) (Nat.le_of_ble_eq_true rfl) (hb 1 p7 p7 I7 _ s7 ((bd_ok eq7).trans (bd_no e14)) (by decide) (by decide) hp7 hp7 hLB7.1 hLB7.2.1 hF7) dX5_readInner_18
  · refine Kq_i (k' := 0) (sl' := 0) rfl rfl ?_
    have hT7 := hF7.T hl hT
    have kn7 := kd_ne hk7 hk37
    refine V_istore_n 11 [(3, .int v7), (0, rf G l), (1, rf G 1), (2, .int (nI o))] (by decide) rfl rfl dX5_readInner_10 rfl ?_
    refine V_aload_n 12 2 rfl _ rfl rfl dX5_readInner_11 rfl ?_
    refine V_bipush 14 (41) rfl dX5_readInner_12 rfl ?_
    refine V_callV (K' := 0) (S' := 0) 17 1 8 1 [.int 41] mkX8_takeSign lkX5_94 (by decide) rfl rfl (by decide) rfl (Nat.le_of_ble_eq_true rfl) (Nat.le_of_ble_eq_true rfl) (Nat.le_of_ble_eq_true rfl) (Nat.le_of_ble_eq_true rfl) rfl rfl dX5_readInner_14 rfl (c_X8_takeSign (c := 41) hRK hT7 (by decide) (by decide) (by decide) hp7 (fun _ => ?_) (fun _ e _ => absurd e kn7) (fun e _ => absurd e kn7))
    refine Kq_v (k' := 0) (sl' := 0) rfl rfl ?_
    refine V_iload_n 18 0 rfl rfl dX5_readInner_17 rfl ?_
    refine V_ret_i rfl rfl (Nat.le_of_ble_eq_true rfl) (fun h => absurd h (by decide)) (Nat.le_of_ble_eq_true rfl) (hb _ _ p7 I7 _ s7 (bd_no eq7) hk7 hk37 hq7 hp7 h47 h57 hF7) dX5_readInner_18
set_option maxHeartbeats 8000000 in
theorem c_X5_readPair {G : Gx} {t : Nat → Nat} {z o D0 kk : Nat} (hk2 : 2 ≤ kk) (hk8 : kk ≤ 8) {u : Nat → FT ⊕ (LE × Nat)} (hU : LCt G mX5_readSum D0 [.int (nI o)] t z u) : LCt G mX5_readPair (D0 + 10) [.int (nI kk), .int (nI o)] t z (pPair u t z kk) := by
  intro d I R J Q l p s fp hd hRK hl hT h150 hp hs hLB hk hb
  obtain ⟨m, rfl⟩ : ∃ m, d = m + 10 := ⟨d - 10, by omega⟩
  have h6 := hT.2.1
  obtain ⟨n1, n2, n3⟩ := nx_z (t := t) hp
  have nxe : nx t z p = sk t z (enF t z p) := rfl
  show V _ _ _ _ _ _ _ _ [(0, rf G l), (1, rf G 1), (2, .int (nI kk)), (3, .int (nI o))] [] _ _ _ _ _
  refine V_aload_n 1 1 rfl _ rfl rfl dX5_readPair_0 rfl ?_
  refine V_callV (K' := 0) (S' := 0) 4 1 8 0 [] mkX8_next lkX5_59 (by decide) rfl rfl (by decide) rfl (Nat.le_of_ble_eq_true rfl) (Nat.le_of_ble_eq_true rfl) (Nat.le_of_ble_eq_true rfl) (Nat.le_of_ble_eq_true rfl) rfl rfl dX5_readPair_1 rfl (c_X8_next hRK hT (enF_z hp).2.1 ?_)
  refine Kq_v (k' := 0) (sl' := 0) rfl rfl ?_
  refine V_aload_n 5 1 rfl _ rfl rfl dX5_readPair_4 rfl ?_
  refine V_bipush 7 (91) rfl dX5_readPair_5 rfl ?_
  refine V_callV (K' := 0) (S' := 0) 10 1 8 1 [.int 91] mkX8_takeSign lkX5_94 (by decide) rfl rfl (by decide) rfl (Nat.le_of_ble_eq_true rfl) (Nat.le_of_ble_eq_true rfl) (Nat.le_of_ble_eq_true rfl) (Nat.le_of_ble_eq_true rfl) rfl rfl dX5_readPair_7 rfl (c_X8_takeSign (c := 91) hRK hT (by decide) (by decide) (by decide) (nx_z hp).2.1 (fun e => absurd rfl e) (fun p7 _ e7 => ?_) (fun _ e7 => ?_))
  · refine Kq_v (k' := 0) (sl' := 0) rfl rfl ?_
    obtain ⟨-, -, -, lt7, hp7⟩ := pSig_ok e7
    refine V_aload_n 11 1 rfl _ rfl rfl dX5_readPair_10 rfl ?_
    refine V_callV (K' := 0) (S' := 0) 14 1 8 0 [] mkX8_isFaulty lkX5_49 (by decide) rfl rfl (by decide) rfl (Nat.le_of_ble_eq_true rfl) (Nat.le_of_ble_eq_true rfl) (Nat.le_of_ble_eq_true rfl) (Nat.le_of_ble_eq_true rfl) rfl rfl dX5_readPair_11 rfl (c_X8_isFaulty (fun _ => ?_) (fun e => absurd rfl e))
    refine Kq_i (k' := 0) (sl' := 0) rfl rfl ?_
    refine V_if_eq 19 17 rfl dX5_readPair_14 rfl (fun c14 => ?_) (fun c14 => absurd c14 (by decide))
    refine V_aload_n 20 0 rfl _ rfl rfl dX5_readPair_19 rfl ?_
    refine V_aload_n 21 1 rfl _ rfl rfl dX5_readPair_20 rfl ?_
    refine V_iload_n 22 3 rfl rfl dX5_readPair_21 rfl ?_
    refine V_callV (K' := 0) (S' := 0) 25 l 5 2 [rf G 1, .int (nI o)] mkX5_readSum lkX5_35 (by decide) rfl (ly_l hl).1 (by omega) rfl (Nat.le_of_ble_eq_true rfl) (Nat.le_of_ble_eq_true rfl) (Nat.le_of_ble_eq_true rfl) (Nat.le_of_ble_eq_true rfl) rfl rfl dX5_readPair_22 rfl (hU _ _ _ _ _ l p7 s _ (by omega) hRK hl hT h150 hp7 (by omega) hLB (fun e22 p22 I22 s22 r22 eq22 lt22 hp22 hr22 hs22 hss22 hLB22 hV22 hE22 hF22 => ?_) (fun k22 q22 p22 I22 v22 s22 eq22 hk22 hk322 hq22 hp22 h422 h522 hF22 => ?_))
    · refine Kq_i (k' := 0) (sl' := 0) rfl rfl ?_
      have hT22 := hF22.T hl hT
      refine V_istore 27 [(4, .int (nI r22)), (0, rf G l), (1, rf G 1), (2, .int (nI kk)), (3, .int (nI o))] (by decide) rfl dX5_readPair_25 rfl ?_
      refine V_aload_n 28 2 rfl _ rfl rfl dX5_readPair_27 rfl ?_
      refine V_bipush 30 (44) rfl dX5_readPair_28 rfl ?_
      refine V_callV (K' := 0) (S' := 0) 33 1 8 1 [.int 44] mkX8_takeSign lkX5_94 (by decide) rfl rfl (by decide) rfl (Nat.le_of_ble_eq_true rfl) (Nat.le_of_ble_eq_true rfl) (Nat.le_of_ble_eq_true rfl) (Nat.le_of_ble_eq_true rfl) rfl rfl dX5_readPair_30 rfl (c_X8_takeSign (c := 44) hRK hT22 (by decide) (by decide) (by decide) hp22 (fun e => absurd rfl e) (fun p30 _ e30 => ?_) (fun _ e30 => ?_))
      · refine Kq_v (k' := 0) (sl' := 0) rfl rfl ?_
        obtain ⟨-, -, -, lt30, hp30⟩ := pSig_ok e30
        refine V_aload_n 34 2 rfl _ rfl rfl dX5_readPair_33 rfl ?_
        refine V_callV (K' := 0) (S' := 0) 37 1 8 0 [] mkX8_isFaulty lkX5_49 (by decide) rfl rfl (by decide) rfl (Nat.le_of_ble_eq_true rfl) (Nat.le_of_ble_eq_true rfl) (Nat.le_of_ble_eq_true rfl) (Nat.le_of_ble_eq_true rfl) rfl rfl dX5_readPair_34 rfl (c_X8_isFaulty (fun _ => ?_) (fun e => absurd rfl e))
        refine Kq_i (k' := 0) (sl' := 0) rfl rfl ?_
        refine V_if_eq 42 40 rfl dX5_readPair_37 rfl (fun c37 => ?_) (fun c37 => absurd c37 (by decide))
        refine V_aload_n 43 1 rfl _ rfl rfl dX5_readPair_42 rfl ?_
        refine V_aload_n 44 2 rfl _ rfl rfl dX5_readPair_43 rfl ?_
        refine V_iload_n 45 4 rfl rfl dX5_readPair_44 rfl ?_
        refine V_callV (K' := 0) (S' := 0) 48 l 5 2 [rf G 1, .int (nI o)] mkX5_readSum lkX5_35 (by decide) rfl (ly_l hl).1 (by omega) rfl (Nat.le_of_ble_eq_true rfl) (Nat.le_of_ble_eq_true rfl) (Nat.le_of_ble_eq_true rfl) (Nat.le_of_ble_eq_true rfl) rfl rfl dX5_readPair_45 rfl (hU _ _ _ _ _ l p30 s22 _ (by omega) hRK hl hT22 h150 hp30 (by omega) hLB22 (fun e45 p45 I45 s45 r45 eq45 lt45 hp45 hr45 hs45 hss45 hLB45 hV45 hE45 hF45 => ?_) (fun k45 q45 p45 I45 v45 s45 eq45 hk45 hk345 hq45 hp45 h445 h545 hF45 => ?_))
        · refine Kq_i (k' := 0) (sl' := 0) rfl rfl ?_
          have hT45 := hF45.T hl hT22
          refine V_istore 50 [(5, .int (nI r45)), (4, .int (nI r22)), (0, rf G l), (1, rf G 1), (2, .int (nI kk)), (3, .int (nI o))] (by decide) rfl dX5_readPair_48 rfl ?_
          refine V_aload_n 51 3 rfl _ rfl rfl dX5_readPair_50 rfl ?_
          refine V_bipush 53 (93) rfl dX5_readPair_51 rfl ?_
          refine V_callV (K' := 0) (S' := 0) 56 1 8 1 [.int 93] mkX8_takeSign lkX5_94 (by decide) rfl rfl (by decide) rfl (Nat.le_of_ble_eq_true rfl) (Nat.le_of_ble_eq_true rfl) (Nat.le_of_ble_eq_true rfl) (Nat.le_of_ble_eq_true rfl) rfl rfl dX5_readPair_53 rfl (c_X8_takeSign (c := 93) hRK hT45 (by decide) (by decide) (by decide) hp45 (fun e => absurd rfl e) (fun p53 _ e53 => ?_) (fun _ e53 => ?_))
          · refine Kq_v (k' := 0) (sl' := 0) rfl rfl ?_
            obtain ⟨-, -, -, lt53, hp53⟩ := pSig_ok e53
            refine V_aload_n 57 2 rfl _ rfl rfl dX5_readPair_56 rfl ?_
            refine V_iload_n 58 4 rfl rfl dX5_readPair_57 rfl ?_
            refine V_iload 60 1 rfl dX5_readPair_58 rfl ?_
            refine V_iload 62 0 rfl dX5_readPair_60 rfl ?_
            have hj62 := jn_o (k := kk) hLB45 (by omega) hk2 hk8 (show r22 < s45 by omega) (show r45 < s45 by omega) (hV22.ext hE45 (by omega)) hV45
            refine V_callV (K' := 0) (S' := 0) 65 l 5 3 [.int (nI kk), .int (nI r22), .int (nI r45)] mkX5_join lkX5_31 (by decide) rfl (ly_l hl).1 (by omega) rfl (Nat.le_of_ble_eq_true rfl) (Nat.le_of_ble_eq_true rfl) (Nat.le_of_ble_eq_true rfl) (Nat.le_of_ble_eq_true rfl) rfl rfl dX5_readPair_62 rfl (c_X5_joinT hRK hl hLB45.1 (by omega) ?_)
            refine Kq_i (k' := 0) (sl' := 0) rfl rfl ?_
            refine V_ret_i rfl rfl (Nat.le_of_ble_eq_true rfl) (fun h => absurd h (by decide)) (Nat.le_of_ble_eq_true rfl) (hk _ p53 _ (s45 + 1) s45 ((bd_ok e7).trans ((bd_ok eq22).trans ((bd_ok e30).trans ((bd_ok eq45).trans (bd_ok e53))))) (by omega) hp53 (by omega) (by omega) (by omega) hj62.1 hj62.2 ((hE22.tr hE45 (by omega)).tr jn_ext (by omega)) ((hF22.tr hF45).tr jn_fr)) dX5_readPair_65
          · refine Kq_v (k' := 0) (sl' := 0) rfl rfl ?_
            refine V_aload_n 57 2 rfl _ rfl rfl dX5_readPair_56 rfl ?_
            refine V_iload_n 58 4 rfl rfl dX5_readPair_57 rfl ?_
            refine V_iload 60 1 rfl dX5_readPair_58 rfl ?_
            refine V_iload 62 0 rfl dX5_readPair_60 rfl ?_
            refine V_callV (K' := 0) (S' := 0) 65 l 5 3 [.int (nI kk), .int (nI r22), .int (nI r45)] mkX5_join lkX5_31 (by decide) rfl (ly_l hl).1 (by omega) rfl (Nat.le_of_ble_eq_true rfl) (Nat.le_of_ble_eq_true rfl) (Nat.le_of_ble_eq_true rfl) (Nat.le_of_ble_eq_true rfl) rfl rfl dX5_readPair_62 rfl (c_X5_joinTB hRK hl hLB45.1 hLB45.2.1 (fun v62 I62 s62 h462 h562 hF62 => ?_))
            refine Kq_i (k' := 0) (sl' := 0) rfl rfl ?_
            have hT62 := hF62.T hl hT45
            refine V_ret_i rfl rfl (Nat.le_of_ble_eq_true rfl) (fun h => absurd h (by decide)) (Nat.le_of_ble_eq_true rfl) (hb 1 p45 p45 I62 _ s62 ((bd_ok e7).trans ((bd_ok eq22).trans ((bd_ok e30).trans ((bd_ok eq45).trans (bd_no e53))))) (by decide) (by decide) hp45 hp45 h462 h562 ((hF22.tr hF45).tr hF62)) dX5_readPair_65
        · refine Kq_i (k' := 0) (sl' := 0) rfl rfl ?_
          have hT45 := hF45.T hl hT22
          have kn45 := kd_ne hk45 hk345
          refine V_istore 50 [(5, .int v45), (4, .int (nI r22)), (0, rf G l), (1, rf G 1), (2, .int (nI kk)), (3, .int (nI o))] (by decide) rfl dX5_readPair_48 rfl ?_
          refine V_aload_n 51 3 rfl _ rfl rfl dX5_readPair_50 rfl ?_
          refine V_bipush 53 (93) rfl dX5_readPair_51 rfl ?_
          refine V_callV (K' := 0) (S' := 0) 56 1 8 1 [.int 93] mkX8_takeSign lkX5_94 (by decide) rfl rfl (by decide) rfl (Nat.le_of_ble_eq_true rfl) (Nat.le_of_ble_eq_true rfl) (Nat.le_of_ble_eq_true rfl) (Nat.le_of_ble_eq_true rfl) rfl rfl dX5_readPair_53 rfl (c_X8_takeSign (c := 93) hRK hT45 (by decide) (by decide) (by decide) hp45 (fun _ => ?_) (fun _ e _ => absurd e kn45) (fun e _ => absurd e kn45))
          refine Kq_v (k' := 0) (sl' := 0) rfl rfl ?_
          refine V_aload_n 57 2 rfl _ rfl rfl dX5_readPair_56 rfl ?_
          refine V_iload_n 58 4 rfl rfl dX5_readPair_57 rfl ?_
          refine V_iload 60 1 rfl dX5_readPair_58 rfl ?_
          refine V_iload 62 0 rfl dX5_readPair_60 rfl ?_
          refine V_callV (K' := 0) (S' := 0) 65 l 5 3 [.int (nI kk), .int (nI r22), .int v45] mkX5_join lkX5_31 (by decide) rfl (ly_l hl).1 (by omega) rfl (Nat.le_of_ble_eq_true rfl) (Nat.le_of_ble_eq_true rfl) (Nat.le_of_ble_eq_true rfl) (Nat.le_of_ble_eq_true rfl) rfl rfl dX5_readPair_62 rfl (c_X5_joinTB hRK hl h445 h545 (fun v62 I62 s62 h462 h562 hF62 => ?_))
          refine Kq_i (k' := 0) (sl' := 0) rfl rfl ?_
          have hT62 := hF62.T hl hT45
          refine V_ret_i rfl rfl (Nat.le_of_ble_eq_true rfl) (fun h => absurd h (by decide)) (Nat.le_of_ble_eq_true rfl) (hb _ _ p45 I62 _ s62 ((bd_ok e7).trans ((bd_ok eq22).trans ((bd_ok e30).trans (bd_no eq45)))) hk45 hk345 hq45 hp45 h462 h562 ((hF22.tr hF45).tr hF62)) dX5_readPair_65
      · refine Kq_v (k' := 0) (sl' := 0) rfl rfl ?_
        refine V_aload_n 34 2 rfl _ rfl rfl dX5_readPair_33 rfl ?_
        refine V_callV (K' := 0) (S' := 0) 37 1 8 0 [] mkX8_isFaulty lkX5_49 (by decide) rfl rfl (by decide) rfl (Nat.le_of_ble_eq_true rfl) (Nat.le_of_ble_eq_true rfl) (Nat.le_of_ble_eq_true rfl) (Nat.le_of_ble_eq_true rfl) rfl rfl dX5_readPair_34 rfl (c_X8_isFaulty (fun e => absurd e (show ¬ (1 : Int32) = 0 by decide)) (fun _ => ?_))
        refine Kq_i (k' := 0) (sl' := 0) rfl rfl ?_
        refine V_if_eq 42 40 rfl dX5_readPair_37 rfl (fun c37 => absurd c37 (by decide)) (fun c37 => ?_)
        refine V_iconst 41 (0) rfl dX5_readPair_40 rfl ?_
        refine V_ret_i rfl rfl (Nat.le_of_ble_eq_true rfl) (fun h => absurd h (by decide)) (Nat.le_of_ble_eq_true rfl) (hb 1 p22 p22 I22 0 s22 ((bd_ok e7).trans ((bd_ok eq22).trans (bd_no e30))) (by decide) (by decide) hp22 hp22 hLB22.1 hLB22.2.1 hF22) dX5_readPair_41
    · refine Kq_i (k' := 0) (sl' := 0) rfl rfl ?_
      have hT22 := hF22.T hl hT
      have kn22 := kd_ne hk22 hk322
      refine V_istore 27 [(4, .int v22), (0, rf G l), (1, rf G 1), (2, .int (nI kk)), (3, .int (nI o))] (by decide) rfl dX5_readPair_25 rfl ?_
      refine V_aload_n 28 2 rfl _ rfl rfl dX5_readPair_27 rfl ?_
      refine V_bipush 30 (44) rfl dX5_readPair_28 rfl ?_
      refine V_callV (K' := 0) (S' := 0) 33 1 8 1 [.int 44] mkX8_takeSign lkX5_94 (by decide) rfl rfl (by decide) rfl (Nat.le_of_ble_eq_true rfl) (Nat.le_of_ble_eq_true rfl) (Nat.le_of_ble_eq_true rfl) (Nat.le_of_ble_eq_true rfl) rfl rfl dX5_readPair_30 rfl (c_X8_takeSign (c := 44) hRK hT22 (by decide) (by decide) (by decide) hp22 (fun _ => ?_) (fun _ e _ => absurd e kn22) (fun e _ => absurd e kn22))
      refine Kq_v (k' := 0) (sl' := 0) rfl rfl ?_
      refine V_aload_n 34 2 rfl _ rfl rfl dX5_readPair_33 rfl ?_
      refine V_callV (K' := 0) (S' := 0) 37 1 8 0 [] mkX8_isFaulty lkX5_49 (by decide) rfl rfl (by decide) rfl (Nat.le_of_ble_eq_true rfl) (Nat.le_of_ble_eq_true rfl) (Nat.le_of_ble_eq_true rfl) (Nat.le_of_ble_eq_true rfl) rfl rfl dX5_readPair_34 rfl (c_X8_isFaulty (fun e => absurd e kn22) (fun _ => ?_))
      refine Kq_i (k' := 0) (sl' := 0) rfl rfl ?_
      refine V_if_eq 42 40 rfl dX5_readPair_37 rfl (fun c37 => absurd c37 (by decide)) (fun c37 => ?_)
      refine V_iconst 41 (0) rfl dX5_readPair_40 rfl ?_
      refine V_ret_i rfl rfl (Nat.le_of_ble_eq_true rfl) (fun h => absurd h (by decide)) (Nat.le_of_ble_eq_true rfl) (hb _ _ p22 I22 0 s22 ((bd_ok e7).trans (bd_no eq22)) hk22 hk322 hq22 hp22 h422 h522 hF22) dX5_readPair_41
  · refine Kq_v (k' := 0) (sl' := 0) rfl rfl ?_
    refine V_aload_n 11 1 rfl _ rfl rfl dX5_readPair_10 rfl ?_
    refine V_callV (K' := 0) (S' := 0) 14 1 8 0 [] mkX8_isFaulty lkX5_49 (by decide) rfl rfl (by decide) rfl (Nat.le_of_ble_eq_true rfl) (Nat.le_of_ble_eq_true rfl) (Nat.le_of_ble_eq_true rfl) (Nat.le_of_ble_eq_true rfl) rfl rfl dX5_readPair_11 rfl (c_X8_isFaulty (fun e => absurd e (show ¬ (1 : Int32) = 0 by decide)) (fun _ => ?_))
    refine Kq_i (k' := 0) (sl' := 0) rfl rfl ?_
    refine V_if_eq 19 17 rfl dX5_readPair_14 rfl (fun c14 => absurd c14 (by decide)) (fun c14 => ?_)
    refine V_iconst 18 (0) rfl dX5_readPair_17 rfl ?_
    refine V_ret_i rfl rfl (Nat.le_of_ble_eq_true rfl) (fun h => absurd h (by decide)) (Nat.le_of_ble_eq_true rfl) (hb 1 _ _ I 0 s (bd_no e7) (by decide) (by decide) n2 n2 hLB.1 hLB.2.1 FrL.rf) dX5_readPair_18
set_option maxHeartbeats 8000000 in
theorem c_X5_readUnit0 {G : Gx} {t : Nat → Nat} {z D0 : Nat}  : LCt G mX5_readUnit (D0 + 20) [.int (6)] t z (pUnit t z 0) := by
  intro d I R J Q l p s fp hd hRK hl hT h150 hp hs hLB hk hb
  obtain ⟨m, rfl⟩ : ∃ m, d = m + 10 := ⟨d - 10, by omega⟩
  have h6 := hT.2.1
  obtain ⟨n1, n2, n3⟩ := nx_z (t := t) hp
  have nxe : nx t z p = sk t z (enF t z p) := rfl
  show V _ _ _ _ _ _ _ _ [(0, rf G l), (1, rf G 1), (2, .int (6))] [] _ _ _ _ _
  refine V_aload_n 1 1 rfl _ rfl rfl dX5_readUnit_0 rfl ?_
  refine V_callV (K' := 0) (S' := 0) 4 1 8 0 [] mkX8_isNumber lkX5_69 (by decide) rfl rfl (by decide) rfl (Nat.le_of_ble_eq_true rfl) (Nat.le_of_ble_eq_true rfl) (Nat.le_of_ble_eq_true rfl) (Nat.le_of_ble_eq_true rfl) rfl rfl dX5_readUnit_1 rfl (c_X8_isNumber hRK hT (fun d1 => ?_) (fun d1 => ?_))
  · refine Kq_i (k' := 0) (sl' := 0) rfl rfl ?_
    refine V_if_eq 22 7 rfl dX5_readUnit_4 rfl (fun c4 => absurd c4 (by decide)) (fun c4 => ?_)
    refine V_aload_n 8 0 rfl _ rfl rfl dX5_readUnit_7 rfl ?_
    refine V_iconst 9 (0) rfl dX5_readUnit_8 rfl ?_
    refine V_aload_n 10 1 rfl _ rfl rfl dX5_readUnit_9 rfl ?_
    refine V_iconst 11 (0) rfl dX5_readUnit_10 rfl ?_
    refine V_sipush 14 (999) rfl dX5_readUnit_11 rfl ?_
    refine V_callV (K' := 0) (S' := 0) 17 1 8 2 [.int 0, .int 999] mkX8_takeNumber lkX5_72 (by decide) rfl rfl (by decide) rfl (Nat.le_of_ble_eq_true rfl) (Nat.le_of_ble_eq_true rfl) (Nat.le_of_ble_eq_true rfl) (Nat.le_of_ble_eq_true rfl) rfl rfl dX5_readUnit_14 rfl (c_X8_takeNumber (lo := 0) (cnt := 1000) hRK hT (by decide) (hh_lit 999 (by decide)) hp (fun e => absurd rfl e) (fun v14 p14 _ e14 => ?_) (fun k14 _ e14 => ?_))
    · refine Kq_i (k' := 0) (sl' := 0) rfl rfl ?_
      obtain ⟨-, -, lo14, hi14, -, -, lt14, hp14⟩ := pNum_ok e14
      refine V_iconst 18 (0) rfl dX5_readUnit_17 rfl ?_
      have hj18 := jn_c (v := v14) hLB (by omega)
      refine V_callV (K' := 0) (S' := 0) 21 l 5 3 [.int 0, .int (nI v14), .int 0] mkX5_join lkX5_31 (by decide) rfl (ly_l hl).1 (by omega) rfl (Nat.le_of_ble_eq_true rfl) (Nat.le_of_ble_eq_true rfl) (Nat.le_of_ble_eq_true rfl) (Nat.le_of_ble_eq_true rfl) rfl rfl dX5_readUnit_18 rfl (c_X5_joinT hRK hl hLB.1 (by omega) ?_)
      refine Kq_i (k' := 0) (sl' := 0) rfl rfl ?_
      refine V_ret_i rfl rfl (Nat.le_of_ble_eq_true rfl) (fun h => absurd h (by decide)) (Nat.le_of_ble_eq_true rfl) (hk _ _ _ _ _ ((if_pos d1).trans (bd_ok e14)) lt14 hp14 (by omega) (by omega) (by omega) hj18.1 hj18.2 jn_ext jn_fr) dX5_readUnit_21
    · refine Kq_i (k' := 0) (sl' := 0) rfl rfl ?_
      have kk14 := pNum_k e14
      have kne14 := kd_ne kk14.1 kk14.2
      refine V_iconst 18 (0) rfl dX5_readUnit_17 rfl ?_
      refine V_callV (K' := 0) (S' := 0) 21 l 5 3 [.int 0, .int 0, .int 0] mkX5_join lkX5_31 (by decide) rfl (ly_l hl).1 (by omega) rfl (Nat.le_of_ble_eq_true rfl) (Nat.le_of_ble_eq_true rfl) (Nat.le_of_ble_eq_true rfl) (Nat.le_of_ble_eq_true rfl) rfl rfl dX5_readUnit_18 rfl (c_X5_joinTB hRK hl hLB.1 hLB.2.1 (fun v18 I18 s18 h418 h518 hF18 => ?_))
      refine Kq_i (k' := 0) (sl' := 0) rfl rfl ?_
      have hT18 := hF18.T hl hT
      refine V_ret_i rfl rfl (Nat.le_of_ble_eq_true rfl) (fun h => absurd h (by decide)) (Nat.le_of_ble_eq_true rfl) (hb _ _ _ I18 _ s18 ((if_pos d1).trans (bd_no e14)) kk14.1 kk14.2 hp hp h418 h518 hF18) dX5_readUnit_21
  · refine Kq_i (k' := 0) (sl' := 0) rfl rfl ?_
    refine V_if_eq 22 7 rfl dX5_readUnit_4 rfl (fun c4 => ?_) (fun c4 => absurd c4 (by decide))
    refine V_aload_n 23 1 rfl _ rfl rfl dX5_readUnit_22 rfl ?_
    refine V_ldcS 25 5 rfl rfl dX5_readUnit_23 rfl ?_
    refine V_callV (K' := 0) (S' := 0) 28 1 8 1 [sr G 5] mkX8_isWord lkX5_78 (by decide) rfl rfl (by decide) rfl (Nat.le_of_ble_eq_true rfl) (Nat.le_of_ble_eq_true rfl) (Nat.le_of_ble_eq_true rfl) (Nat.le_of_ble_eq_true rfl) rfl rfl dX5_readUnit_25 rfl (c_X8_isWd hRK hT hp (wdo 5 (by decide) (by decide) (by decide)) (fun w25 => ?_) (fun w25 => ?_))
    · refine Kq_i (k' := 0) (sl' := 0) rfl rfl ?_
      refine V_istore_n 29 [(3, .int 1), (0, rf G l), (1, rf G 1), (2, .int 6)] (by decide) rfl rfl dX5_readUnit_28 rfl ?_
      refine V_iload_n 30 0 rfl rfl dX5_readUnit_29 rfl ?_
      refine V_if_ne 51 33 rfl dX5_readUnit_30 rfl (fun c30 => ?_) (fun c30 => absurd c30 (by decide))
      refine V_iload_n 52 3 rfl rfl dX5_readUnit_51 rfl ?_
      refine V_bipush 54 (6) rfl dX5_readUnit_52 rfl ?_
      refine V_icmp_lt 64 57 rfl dX5_readUnit_54 rfl (fun c54 => absurd c54 (by decide)) (fun c54 => ?_)
      refine V_aload_n 58 2 rfl _ rfl rfl dX5_readUnit_57 rfl ?_
      refine V_iconst 59 (3) rfl dX5_readUnit_58 rfl ?_
      refine V_callV (K' := 0) (S' := 0) 62 1 8 1 [.int 3] mkX8_fail lkX5_45 (by decide) rfl rfl (by decide) rfl (Nat.le_of_ble_eq_true rfl) (Nat.le_of_ble_eq_true rfl) (Nat.le_of_ble_eq_true rfl) (Nat.le_of_ble_eq_true rfl) rfl rfl dX5_readUnit_59 rfl (c_X8_fail (k := 3) hRK hT (fun e => absurd rfl e) (fun _ => ?_))
      refine Kq_v (k' := 0) (sl' := 0) rfl rfl ?_
      refine V_iconst 63 (0) rfl dX5_readUnit_62 rfl ?_
      refine V_ret_i rfl rfl (Nat.le_of_ble_eq_true rfl) (fun h => absurd h (by decide)) (Nat.le_of_ble_eq_true rfl) (hb 3 p p I 0 s ((if_neg d1).trans (if_pos (by first | exact Or.inl w25 | exact Or.inr (Or.inl w36) | exact Or.inr (Or.inr ⟨z45, s45⟩)))) (by decide) (by decide) hp hp hLB.1 hLB.2.1 FrL.rf) dX5_readUnit_63
    · refine Kq_i (k' := 0) (sl' := 0) rfl rfl ?_
      refine V_istore_n 29 [(3, .int 0), (0, rf G l), (1, rf G 1), (2, .int 6)] (by decide) rfl rfl dX5_readUnit_28 rfl ?_
      refine V_iload_n 30 0 rfl rfl dX5_readUnit_29 rfl ?_
      refine V_if_ne 51 33 rfl dX5_readUnit_30 rfl (fun c30 => absurd c30 (by decide)) (fun c30 => ?_)
      refine V_aload_n 34 2 rfl _ rfl rfl dX5_readUnit_33 rfl ?_
      refine V_ldcS 36 6 rfl rfl dX5_readUnit_34 rfl ?_
      refine V_callV (K' := 0) (S' := 0) 39 1 8 1 [sr G 6] mkX8_isWord lkX5_78 (by decide) rfl rfl (by decide) rfl (Nat.le_of_ble_eq_true rfl) (Nat.le_of_ble_eq_true rfl) (Nat.le_of_ble_eq_true rfl) (Nat.le_of_ble_eq_true rfl) rfl rfl dX5_readUnit_36 rfl (c_X8_isWd hRK hT hp (wdo 6 (by decide) (by decide) (by decide)) (fun w36 => ?_) (fun w36 => ?_))
      · refine Kq_i (k' := 0) (sl' := 0) rfl rfl ?_
        refine V_if_ne 51 42 rfl dX5_readUnit_39 rfl (fun c39 => ?_) (fun c39 => absurd c39 (by decide))
        refine V_iload_n 52 3 rfl rfl dX5_readUnit_51 rfl ?_
        refine V_bipush 54 (6) rfl dX5_readUnit_52 rfl ?_
        refine V_icmp_lt 64 57 rfl dX5_readUnit_54 rfl (fun c54 => absurd c54 (by decide)) (fun c54 => ?_)
        refine V_aload_n 58 2 rfl _ rfl rfl dX5_readUnit_57 rfl ?_
        refine V_iconst 59 (3) rfl dX5_readUnit_58 rfl ?_
        refine V_callV (K' := 0) (S' := 0) 62 1 8 1 [.int 3] mkX8_fail lkX5_45 (by decide) rfl rfl (by decide) rfl (Nat.le_of_ble_eq_true rfl) (Nat.le_of_ble_eq_true rfl) (Nat.le_of_ble_eq_true rfl) (Nat.le_of_ble_eq_true rfl) rfl rfl dX5_readUnit_59 rfl (c_X8_fail (k := 3) hRK hT (fun e => absurd rfl e) (fun _ => ?_))
        refine Kq_v (k' := 0) (sl' := 0) rfl rfl ?_
        refine V_iconst 63 (0) rfl dX5_readUnit_62 rfl ?_
        refine V_ret_i rfl rfl (Nat.le_of_ble_eq_true rfl) (fun h => absurd h (by decide)) (Nat.le_of_ble_eq_true rfl) (hb 3 p p I 0 s ((if_neg d1).trans (if_pos (by first | exact Or.inl w25 | exact Or.inr (Or.inl w36) | exact Or.inr (Or.inr ⟨z45, s45⟩)))) (by decide) (by decide) hp hp hLB.1 hLB.2.1 FrL.rf) dX5_readUnit_63
      · refine Kq_i (k' := 0) (sl' := 0) rfl rfl ?_
        refine V_if_ne 51 42 rfl dX5_readUnit_39 rfl (fun c39 => absurd c39 (by decide)) (fun c39 => ?_)
        refine V_aload_n 43 2 rfl _ rfl rfl dX5_readUnit_42 rfl ?_
        refine V_bipush 45 (40) rfl dX5_readUnit_43 rfl ?_
        refine V_callV (K' := 0) (S' := 0) 48 1 8 1 [.int 40] mkX8_isSign lkX5_55 (by decide) rfl rfl (by decide) rfl (Nat.le_of_ble_eq_true rfl) (Nat.le_of_ble_eq_true rfl) (Nat.le_of_ble_eq_true rfl) (Nat.le_of_ble_eq_true rfl) rfl rfl dX5_readUnit_45 rfl (c_X8_isSign (c := 40) hRK hT (by decide) (by decide) (by decide) (fun _ z45 s45 => ?_) (fun s45 => ?_))
        · refine Kq_i (k' := 0) (sl' := 0) rfl rfl ?_
          refine V_if_eq 104 51 rfl dX5_readUnit_48 rfl (fun c48 => absurd c48 (by decide)) (fun c48 => ?_)
          refine V_iload_n 52 3 rfl rfl dX5_readUnit_51 rfl ?_
          refine V_bipush 54 (6) rfl dX5_readUnit_52 rfl ?_
          refine V_icmp_lt 64 57 rfl dX5_readUnit_54 rfl (fun c54 => absurd c54 (by decide)) (fun c54 => ?_)
          refine V_aload_n 58 2 rfl _ rfl rfl dX5_readUnit_57 rfl ?_
          refine V_iconst 59 (3) rfl dX5_readUnit_58 rfl ?_
          refine V_callV (K' := 0) (S' := 0) 62 1 8 1 [.int 3] mkX8_fail lkX5_45 (by decide) rfl rfl (by decide) rfl (Nat.le_of_ble_eq_true rfl) (Nat.le_of_ble_eq_true rfl) (Nat.le_of_ble_eq_true rfl) (Nat.le_of_ble_eq_true rfl) rfl rfl dX5_readUnit_59 rfl (c_X8_fail (k := 3) hRK hT (fun e => absurd rfl e) (fun _ => ?_))
          refine Kq_v (k' := 0) (sl' := 0) rfl rfl ?_
          refine V_iconst 63 (0) rfl dX5_readUnit_62 rfl ?_
          refine V_ret_i rfl rfl (Nat.le_of_ble_eq_true rfl) (fun h => absurd h (by decide)) (Nat.le_of_ble_eq_true rfl) (hb 3 p p I 0 s ((if_neg d1).trans (if_pos (by first | exact Or.inl w25 | exact Or.inr (Or.inl w36) | exact Or.inr (Or.inr ⟨z45, s45⟩)))) (by decide) (by decide) hp hp hLB.1 hLB.2.1 FrL.rf) dX5_readUnit_63
        · refine Kq_i (k' := 0) (sl' := 0) rfl rfl ?_
          have s45 : ¬ (p < z ∧ t p = 40) := fun q => s45 ⟨rfl, q⟩
          refine V_if_eq 104 51 rfl dX5_readUnit_48 rfl (fun c48 => ?_) (fun c48 => absurd c48 (by decide))
          refine V_aload_n 105 2 rfl _ rfl rfl dX5_readUnit_104 rfl ?_
          refine V_callS (K' := 0) (S' := 0) 108 1 [rf G 1] mkX5_factOf lkX5_91 rfl (Nat.le_of_ble_eq_true rfl) (Nat.le_of_ble_eq_true rfl) (Nat.le_of_ble_eq_true rfl) (Nat.le_of_ble_eq_true rfl) rfl rfl dX5_readUnit_105 rfl (c_X5_factOf hRK hT hp ?_)
          refine Kq_i (k' := 0) (sl' := 0) rfl rfl ?_
          refine V_istore 110 [(4, .int (oI (ftF t z p))), (3, .int 0), (0, rf G l), (1, rf G 1), (2, .int 6)] (by decide) rfl dX5_readUnit_108 rfl ?_
          cases ef : ftF t z p with
          | none =>
            show V _ _ _ _ _ _ _ _ [(4, .int (-1)), (3, .int 0), (0, rf G l), (1, rf G 1), (2, .int 6)] [] _ _ _ _ _
            refine V_iload 112 0 rfl dX5_readUnit_110 rfl ?_
            refine V_iconst 113 (-1) rfl dX5_readUnit_112 rfl ?_
            refine V_icmp_ne 123 116 rfl dX5_readUnit_113 rfl (fun c113 => absurd rfl c113) (fun c113 => ?_)
            refine V_aload_n 117 3 rfl _ rfl rfl dX5_readUnit_116 rfl ?_
            refine V_iconst 118 (1) rfl dX5_readUnit_117 rfl ?_
            refine V_callV (K' := 0) (S' := 0) 121 1 8 1 [.int 1] mkX8_fail lkX5_45 (by decide) rfl rfl (by decide) rfl (Nat.le_of_ble_eq_true rfl) (Nat.le_of_ble_eq_true rfl) (Nat.le_of_ble_eq_true rfl) (Nat.le_of_ble_eq_true rfl) rfl rfl dX5_readUnit_118 rfl (c_X8_fail (k := 1) hRK hT (fun e => absurd rfl e) (fun _ => ?_))
            refine Kq_v (k' := 0) (sl' := 0) rfl rfl ?_
            refine V_iconst 122 (0) rfl dX5_readUnit_121 rfl ?_
            refine V_ret_i rfl rfl (Nat.le_of_ble_eq_true rfl) (fun h => absurd h (by decide)) (Nat.le_of_ble_eq_true rfl) (hb 1 p p I 0 s ((if_neg d1).trans ((if_neg (fun q => q.elim w25 (fun q => q.elim w36 s45))).trans (by show pFact t z p = _; unfold pFact; rw [ef]))) (by decide) (by decide) hp hp hLB.1 hLB.2.1 FrL.rf) dX5_readUnit_122
          | some ft =>
            have hft := ftF_lt ef
            have hpz : p < z := by
              by_cases q : p < z
              · exact q
              · exfalso
                have e0 : wcF t z p = 0 := by unfold wcF; rw [sc_st (fun h => q h.1), Nat.sub_self]; rfl
                have en : ftF t z p = none := by unfold ftF; rw [e0]; decide +kernel
                rw [ef] at en; cases en
            show V _ _ _ _ _ _ _ _ [(4, .int (nI ft)), (3, .int 0), (0, rf G l), (1, rf G 1), (2, .int 6)] [] _ _ _ _ _
            refine V_iload 112 0 rfl dX5_readUnit_110 rfl ?_
            refine V_iconst 113 (-1) rfl dX5_readUnit_112 rfl ?_
            refine V_icmp_ne 123 116 rfl dX5_readUnit_113 rfl (fun c113 => ?_) (fun c113 => absurd c113 (nI_ne (by omega)))
            refine V_aload_n 124 3 rfl _ rfl rfl dX5_readUnit_123 rfl ?_
            refine V_callV (K' := 0) (S' := 0) 127 1 8 0 [] mkX8_next lkX5_59 (by decide) rfl rfl (by decide) rfl (Nat.le_of_ble_eq_true rfl) (Nat.le_of_ble_eq_true rfl) (Nat.le_of_ble_eq_true rfl) (Nat.le_of_ble_eq_true rfl) rfl rfl dX5_readUnit_124 rfl (c_X8_next hRK hT (enF_z hp).2.1 ?_)
            refine Kq_v (k' := 0) (sl' := 0) rfl rfl ?_
            refine V_aload_n 128 2 rfl _ rfl rfl dX5_readUnit_127 rfl ?_
            refine V_iconst 129 (1) rfl dX5_readUnit_128 rfl ?_
            refine V_iload 131 0 rfl dX5_readUnit_129 rfl ?_
            refine V_iconst 132 (0) rfl dX5_readUnit_131 rfl ?_
            have hj132 := jn_f (a := ft) hLB (by omega) hft
            refine V_callV (K' := 0) (S' := 0) 135 l 5 3 [.int 1, .int (nI ft), .int 0] mkX5_join lkX5_31 (by decide) rfl (ly_l hl).1 (by omega) rfl (Nat.le_of_ble_eq_true rfl) (Nat.le_of_ble_eq_true rfl) (Nat.le_of_ble_eq_true rfl) (Nat.le_of_ble_eq_true rfl) rfl rfl dX5_readUnit_132 rfl (c_X5_joinT hRK hl hLB.1 (by omega) ?_)
            refine Kq_i (k' := 0) (sl' := 0) rfl rfl ?_
            refine V_ret_i rfl rfl (Nat.le_of_ble_eq_true rfl) (fun h => absurd h (by decide)) (Nat.le_of_ble_eq_true rfl) (hk _ _ _ _ _ ((if_neg d1).trans ((if_neg (fun q => q.elim w25 (fun q => q.elim w36 s45))).trans (by show pFact t z p = _; unfold pFact; rw [ef]; rfl))) (n3 hpz) n2 (by omega) (by omega) (by have := n3 hpz; omega) hj132.1 hj132.2 jn_ext jn_fr) dX5_readUnit_135
set_option maxHeartbeats 8000000 in
theorem c_X5_readUnitS {G : Gx} {t : Nat → Nat} {z D0 : Nat} {lev : Nat} (hlev : lev < 6) (hU : LCt G mX5_readSum D0 [.int (nI (6 - lev))] t z (pSum (pUnit t z lev) t z)) : LCt G mX5_readUnit (D0 + 20) [.int (nI (6 - (lev + 1)))] t z (pUnit t z (lev + 1)) := by
  intro d I R J Q l p s fp hd hRK hl hT h150 hp hs hLB hk hb
  obtain ⟨m, rfl⟩ : ∃ m, d = m + 10 := ⟨d - 10, by omega⟩
  have h6 := hT.2.1
  obtain ⟨n1, n2, n3⟩ := nx_z (t := t) hp
  have nxe : nx t z p = sk t z (enF t z p) := rfl
  show V _ _ _ _ _ _ _ _ [(0, rf G l), (1, rf G 1), (2, .int (nI (6 - (lev + 1))))] [] _ _ _ _ _
  refine V_aload_n 1 1 rfl _ rfl rfl dX5_readUnit_0 rfl ?_
  refine V_callV (K' := 0) (S' := 0) 4 1 8 0 [] mkX8_isNumber lkX5_69 (by decide) rfl rfl (by decide) rfl (Nat.le_of_ble_eq_true rfl) (Nat.le_of_ble_eq_true rfl) (Nat.le_of_ble_eq_true rfl) (Nat.le_of_ble_eq_true rfl) rfl rfl dX5_readUnit_1 rfl (c_X8_isNumber hRK hT (fun d1 => ?_) (fun d1 => ?_))
  · refine Kq_i (k' := 0) (sl' := 0) rfl rfl ?_
    refine V_if_eq 22 7 rfl dX5_readUnit_4 rfl (fun c4 => absurd c4 (by decide)) (fun c4 => ?_)
    refine V_aload_n 8 0 rfl _ rfl rfl dX5_readUnit_7 rfl ?_
    refine V_iconst 9 (0) rfl dX5_readUnit_8 rfl ?_
    refine V_aload_n 10 1 rfl _ rfl rfl dX5_readUnit_9 rfl ?_
    refine V_iconst 11 (0) rfl dX5_readUnit_10 rfl ?_
    refine V_sipush 14 (999) rfl dX5_readUnit_11 rfl ?_
    refine V_callV (K' := 0) (S' := 0) 17 1 8 2 [.int 0, .int 999] mkX8_takeNumber lkX5_72 (by decide) rfl rfl (by decide) rfl (Nat.le_of_ble_eq_true rfl) (Nat.le_of_ble_eq_true rfl) (Nat.le_of_ble_eq_true rfl) (Nat.le_of_ble_eq_true rfl) rfl rfl dX5_readUnit_14 rfl (c_X8_takeNumber (lo := 0) (cnt := 1000) hRK hT (by decide) (hh_lit 999 (by decide)) hp (fun e => absurd rfl e) (fun v14 p14 _ e14 => ?_) (fun k14 _ e14 => ?_))
    · refine Kq_i (k' := 0) (sl' := 0) rfl rfl ?_
      obtain ⟨-, -, lo14, hi14, -, -, lt14, hp14⟩ := pNum_ok e14
      refine V_iconst 18 (0) rfl dX5_readUnit_17 rfl ?_
      have hj18 := jn_c (v := v14) hLB (by omega)
      refine V_callV (K' := 0) (S' := 0) 21 l 5 3 [.int 0, .int (nI v14), .int 0] mkX5_join lkX5_31 (by decide) rfl (ly_l hl).1 (by omega) rfl (Nat.le_of_ble_eq_true rfl) (Nat.le_of_ble_eq_true rfl) (Nat.le_of_ble_eq_true rfl) (Nat.le_of_ble_eq_true rfl) rfl rfl dX5_readUnit_18 rfl (c_X5_joinT hRK hl hLB.1 (by omega) ?_)
      refine Kq_i (k' := 0) (sl' := 0) rfl rfl ?_
      refine V_ret_i rfl rfl (Nat.le_of_ble_eq_true rfl) (fun h => absurd h (by decide)) (Nat.le_of_ble_eq_true rfl) (hk _ _ _ _ _ ((if_pos d1).trans (bd_ok e14)) lt14 hp14 (by omega) (by omega) (by omega) hj18.1 hj18.2 jn_ext jn_fr) dX5_readUnit_21
    · refine Kq_i (k' := 0) (sl' := 0) rfl rfl ?_
      have kk14 := pNum_k e14
      have kne14 := kd_ne kk14.1 kk14.2
      refine V_iconst 18 (0) rfl dX5_readUnit_17 rfl ?_
      refine V_callV (K' := 0) (S' := 0) 21 l 5 3 [.int 0, .int 0, .int 0] mkX5_join lkX5_31 (by decide) rfl (ly_l hl).1 (by omega) rfl (Nat.le_of_ble_eq_true rfl) (Nat.le_of_ble_eq_true rfl) (Nat.le_of_ble_eq_true rfl) (Nat.le_of_ble_eq_true rfl) rfl rfl dX5_readUnit_18 rfl (c_X5_joinTB hRK hl hLB.1 hLB.2.1 (fun v18 I18 s18 h418 h518 hF18 => ?_))
      refine Kq_i (k' := 0) (sl' := 0) rfl rfl ?_
      have hT18 := hF18.T hl hT
      refine V_ret_i rfl rfl (Nat.le_of_ble_eq_true rfl) (fun h => absurd h (by decide)) (Nat.le_of_ble_eq_true rfl) (hb _ _ _ I18 _ s18 ((if_pos d1).trans (bd_no e14)) kk14.1 kk14.2 hp hp h418 h518 hF18) dX5_readUnit_21
  · refine Kq_i (k' := 0) (sl' := 0) rfl rfl ?_
    refine V_if_eq 22 7 rfl dX5_readUnit_4 rfl (fun c4 => ?_) (fun c4 => absurd c4 (by decide))
    refine V_aload_n 23 1 rfl _ rfl rfl dX5_readUnit_22 rfl ?_
    refine V_ldcS 25 5 rfl rfl dX5_readUnit_23 rfl ?_
    refine V_callV (K' := 0) (S' := 0) 28 1 8 1 [sr G 5] mkX8_isWord lkX5_78 (by decide) rfl rfl (by decide) rfl (Nat.le_of_ble_eq_true rfl) (Nat.le_of_ble_eq_true rfl) (Nat.le_of_ble_eq_true rfl) (Nat.le_of_ble_eq_true rfl) rfl rfl dX5_readUnit_25 rfl (c_X8_isWd hRK hT hp (wdo 5 (by decide) (by decide) (by decide)) (fun w25 => ?_) (fun w25 => ?_))
    · refine Kq_i (k' := 0) (sl' := 0) rfl rfl ?_
      refine V_istore_n 29 [(3, .int 1), (0, rf G l), (1, rf G 1), (2, .int (nI (6 - (lev + 1))))] (by decide) rfl rfl dX5_readUnit_28 rfl ?_
      refine V_iload_n 30 0 rfl rfl dX5_readUnit_29 rfl ?_
      refine V_if_ne 51 33 rfl dX5_readUnit_30 rfl (fun c30 => ?_) (fun c30 => absurd c30 (by decide))
      refine V_iload_n 52 3 rfl rfl dX5_readUnit_51 rfl ?_
      refine V_bipush 54 (6) rfl dX5_readUnit_52 rfl ?_
      refine V_icmp_lt 64 57 rfl dX5_readUnit_54 rfl (fun c54 => ?_) (fun c54 => absurd (nI_lt (b := 6) (show 6 - (lev + 1) < 6 by omega) (by decide)) c54)
      refine V_aload_n 65 2 rfl _ rfl rfl dX5_readUnit_64 rfl ?_
      refine V_bipush 67 (40) rfl dX5_readUnit_65 rfl ?_
      refine V_callV (K' := 0) (S' := 0) 70 1 8 1 [.int 40] mkX8_isSign lkX5_55 (by decide) rfl rfl (by decide) rfl (Nat.le_of_ble_eq_true rfl) (Nat.le_of_ble_eq_true rfl) (Nat.le_of_ble_eq_true rfl) (Nat.le_of_ble_eq_true rfl) rfl rfl dX5_readUnit_67 rfl (c_X8_isSign (c := 40) hRK hT (by decide) (by decide) (by decide) (fun _ z67 s67 => ?_) (fun s67 => ?_))
      · refine Kq_i (k' := 0) (sl' := 0) rfl rfl ?_
        refine V_if_eq 84 73 rfl dX5_readUnit_70 rfl (fun c70 => absurd c70 (by decide)) (fun c70 => ?_)
        refine V_aload_n 74 1 rfl _ rfl rfl dX5_readUnit_73 rfl ?_
        refine V_aload_n 75 2 rfl _ rfl rfl dX5_readUnit_74 rfl ?_
        refine V_iload_n 76 3 rfl rfl dX5_readUnit_75 rfl ?_
        refine V_iconst 77 (1) rfl dX5_readUnit_76 rfl ?_
        refine V_iadd 78 dX5_readUnit_77 rfl ?_
        refine V_rw (show _ = nI (6 - lev) from by rw [nI_1]; congr 1; omega) ?_
        refine V_callV (K' := 0) (S' := 0) 81 l 5 2 [rf G 1, .int (nI (6 - lev))] mkX5_readInner lkX5_84 (by decide) rfl (ly_l hl).1 (by omega) rfl (Nat.le_of_ble_eq_true rfl) (Nat.le_of_ble_eq_true rfl) (Nat.le_of_ble_eq_true rfl) (Nat.le_of_ble_eq_true rfl) rfl rfl dX5_readUnit_78 rfl ((c_X5_readInner hU) _ _ _ _ _ l p s _ (by omega) hRK hl hT h150 hp (by omega) hLB (fun e78 p78 I78 s78 r78 eq78 lt78 hp78 hr78 hs78 hss78 hLB78 hV78 hE78 hF78 => ?_) (fun k78 q78 p78 I78 v78 s78 eq78 hk78 hk378 hq78 hp78 h478 h578 hF78 => ?_))
        · refine Kq_i (k' := 0) (sl' := 0) rfl rfl ?_
          have hT78 := hF78.T hl hT
          refine V_goto 103 rfl dX5_readUnit_81 ?_
          refine V_ret_i rfl rfl (Nat.le_of_ble_eq_true rfl) (fun h => absurd h (by decide)) (Nat.le_of_ble_eq_true rfl) (hk _ _ _ _ _ ((if_neg d1).trans ((if_pos (by first | exact Or.inl w25 | exact Or.inr (Or.inl w36) | exact Or.inr (Or.inr ⟨z45, s45⟩))).trans ((if_pos ⟨z67, s67⟩).trans eq78))) lt78 hp78 hr78 hs78 hss78 hLB78 hV78 hE78 hF78) dX5_readUnit_103
        · refine Kq_i (k' := 0) (sl' := 0) rfl rfl ?_
          have hT78 := hF78.T hl hT
          have kn78 := kd_ne hk78 hk378
          refine V_goto 103 rfl dX5_readUnit_81 ?_
          refine V_ret_i rfl rfl (Nat.le_of_ble_eq_true rfl) (fun h => absurd h (by decide)) (Nat.le_of_ble_eq_true rfl) (hb _ _ _ _ _ _ ((if_neg d1).trans ((if_pos (by first | exact Or.inl w25 | exact Or.inr (Or.inl w36) | exact Or.inr (Or.inr ⟨z45, s45⟩))).trans ((if_pos ⟨z67, s67⟩).trans eq78))) hk78 hk378 hq78 hp78 h478 h578 hF78) dX5_readUnit_103
      · refine Kq_i (k' := 0) (sl' := 0) rfl rfl ?_
        have s67 : ¬ (p < z ∧ t p = 40) := fun q => s67 ⟨rfl, q⟩
        refine V_if_eq 84 73 rfl dX5_readUnit_70 rfl (fun c70 => ?_) (fun c70 => absurd c70 (by decide))
        refine V_aload_n 85 1 rfl _ rfl rfl dX5_readUnit_84 rfl ?_
        refine V_aload_n 86 2 rfl _ rfl rfl dX5_readUnit_85 rfl ?_
        refine V_iload_n 87 0 rfl rfl dX5_readUnit_86 rfl ?_
        refine V_if_eq 95 90 rfl dX5_readUnit_87 rfl (fun c87 => absurd c87 (by decide)) (fun c87 => ?_)
        refine V_bipush 92 (7) rfl dX5_readUnit_90 rfl ?_
        refine V_goto 97 rfl dX5_readUnit_92 ?_
        refine V_iload_n 98 3 rfl rfl dX5_readUnit_97 rfl ?_
        refine V_iconst 99 (1) rfl dX5_readUnit_98 rfl ?_
        refine V_iadd 100 dX5_readUnit_99 rfl ?_
        refine V_rw (show _ = nI (6 - lev) from by rw [nI_1]; congr 1; omega) ?_
        refine V_callV (K' := 0) (S' := 0) 103 l 5 3 [rf G 1, .int 7, .int (nI (6 - lev))] mkX5_readPair lkX5_87 (by decide) rfl (ly_l hl).1 (by omega) rfl (Nat.le_of_ble_eq_true rfl) (Nat.le_of_ble_eq_true rfl) (Nat.le_of_ble_eq_true rfl) (Nat.le_of_ble_eq_true rfl) rfl rfl dX5_readUnit_100 rfl ((c_X5_readPair (kk := 7) (by decide) (by decide) hU) _ _ _ _ _ l p s _ (by omega) hRK hl hT h150 hp (by omega) hLB (fun e100 p100 I100 s100 r100 eq100 lt100 hp100 hr100 hs100 hss100 hLB100 hV100 hE100 hF100 => ?_) (fun k100 q100 p100 I100 v100 s100 eq100 hk100 hk3100 hq100 hp100 h4100 h5100 hF100 => ?_))
        · refine Kq_i (k' := 0) (sl' := 0) rfl rfl ?_
          have hT100 := hF100.T hl hT
          refine V_ret_i rfl rfl (Nat.le_of_ble_eq_true rfl) (fun h => absurd h (by decide)) (Nat.le_of_ble_eq_true rfl) (hk _ _ _ _ _ ((if_neg d1).trans ((if_pos (by first | exact Or.inl w25 | exact Or.inr (Or.inl w36) | exact Or.inr (Or.inr ⟨z45, s45⟩))).trans ((if_neg s67).trans ((congrArg (fun kk => pPair (pSum (pUnit t z lev) t z) t z kk p) (if_pos w25)).trans eq100)))) lt100 hp100 hr100 hs100 hss100 hLB100 hV100 hE100 hF100) dX5_readUnit_103
        · refine Kq_i (k' := 0) (sl' := 0) rfl rfl ?_
          have hT100 := hF100.T hl hT
          have kn100 := kd_ne hk100 hk3100
          refine V_ret_i rfl rfl (Nat.le_of_ble_eq_true rfl) (fun h => absurd h (by decide)) (Nat.le_of_ble_eq_true rfl) (hb _ _ _ _ _ _ ((if_neg d1).trans ((if_pos (by first | exact Or.inl w25 | exact Or.inr (Or.inl w36) | exact Or.inr (Or.inr ⟨z45, s45⟩))).trans ((if_neg s67).trans ((congrArg (fun kk => pPair (pSum (pUnit t z lev) t z) t z kk p) (if_pos w25)).trans eq100)))) hk100 hk3100 hq100 hp100 h4100 h5100 hF100) dX5_readUnit_103
    · refine Kq_i (k' := 0) (sl' := 0) rfl rfl ?_
      refine V_istore_n 29 [(3, .int 0), (0, rf G l), (1, rf G 1), (2, .int (nI (6 - (lev + 1))))] (by decide) rfl rfl dX5_readUnit_28 rfl ?_
      refine V_iload_n 30 0 rfl rfl dX5_readUnit_29 rfl ?_
      refine V_if_ne 51 33 rfl dX5_readUnit_30 rfl (fun c30 => absurd c30 (by decide)) (fun c30 => ?_)
      refine V_aload_n 34 2 rfl _ rfl rfl dX5_readUnit_33 rfl ?_
      refine V_ldcS 36 6 rfl rfl dX5_readUnit_34 rfl ?_
      refine V_callV (K' := 0) (S' := 0) 39 1 8 1 [sr G 6] mkX8_isWord lkX5_78 (by decide) rfl rfl (by decide) rfl (Nat.le_of_ble_eq_true rfl) (Nat.le_of_ble_eq_true rfl) (Nat.le_of_ble_eq_true rfl) (Nat.le_of_ble_eq_true rfl) rfl rfl dX5_readUnit_36 rfl (c_X8_isWd hRK hT hp (wdo 6 (by decide) (by decide) (by decide)) (fun w36 => ?_) (fun w36 => ?_))
      · refine Kq_i (k' := 0) (sl' := 0) rfl rfl ?_
        refine V_if_ne 51 42 rfl dX5_readUnit_39 rfl (fun c39 => ?_) (fun c39 => absurd c39 (by decide))
        refine V_iload_n 52 3 rfl rfl dX5_readUnit_51 rfl ?_
        refine V_bipush 54 (6) rfl dX5_readUnit_52 rfl ?_
        refine V_icmp_lt 64 57 rfl dX5_readUnit_54 rfl (fun c54 => ?_) (fun c54 => absurd (nI_lt (b := 6) (show 6 - (lev + 1) < 6 by omega) (by decide)) c54)
        refine V_aload_n 65 2 rfl _ rfl rfl dX5_readUnit_64 rfl ?_
        refine V_bipush 67 (40) rfl dX5_readUnit_65 rfl ?_
        refine V_callV (K' := 0) (S' := 0) 70 1 8 1 [.int 40] mkX8_isSign lkX5_55 (by decide) rfl rfl (by decide) rfl (Nat.le_of_ble_eq_true rfl) (Nat.le_of_ble_eq_true rfl) (Nat.le_of_ble_eq_true rfl) (Nat.le_of_ble_eq_true rfl) rfl rfl dX5_readUnit_67 rfl (c_X8_isSign (c := 40) hRK hT (by decide) (by decide) (by decide) (fun _ z67 s67 => ?_) (fun s67 => ?_))
        · refine Kq_i (k' := 0) (sl' := 0) rfl rfl ?_
          refine V_if_eq 84 73 rfl dX5_readUnit_70 rfl (fun c70 => absurd c70 (by decide)) (fun c70 => ?_)
          refine V_aload_n 74 1 rfl _ rfl rfl dX5_readUnit_73 rfl ?_
          refine V_aload_n 75 2 rfl _ rfl rfl dX5_readUnit_74 rfl ?_
          refine V_iload_n 76 3 rfl rfl dX5_readUnit_75 rfl ?_
          refine V_iconst 77 (1) rfl dX5_readUnit_76 rfl ?_
          refine V_iadd 78 dX5_readUnit_77 rfl ?_
          refine V_rw (show _ = nI (6 - lev) from by rw [nI_1]; congr 1; omega) ?_
          refine V_callV (K' := 0) (S' := 0) 81 l 5 2 [rf G 1, .int (nI (6 - lev))] mkX5_readInner lkX5_84 (by decide) rfl (ly_l hl).1 (by omega) rfl (Nat.le_of_ble_eq_true rfl) (Nat.le_of_ble_eq_true rfl) (Nat.le_of_ble_eq_true rfl) (Nat.le_of_ble_eq_true rfl) rfl rfl dX5_readUnit_78 rfl ((c_X5_readInner hU) _ _ _ _ _ l p s _ (by omega) hRK hl hT h150 hp (by omega) hLB (fun e78 p78 I78 s78 r78 eq78 lt78 hp78 hr78 hs78 hss78 hLB78 hV78 hE78 hF78 => ?_) (fun k78 q78 p78 I78 v78 s78 eq78 hk78 hk378 hq78 hp78 h478 h578 hF78 => ?_))
          · refine Kq_i (k' := 0) (sl' := 0) rfl rfl ?_
            have hT78 := hF78.T hl hT
            refine V_goto 103 rfl dX5_readUnit_81 ?_
            refine V_ret_i rfl rfl (Nat.le_of_ble_eq_true rfl) (fun h => absurd h (by decide)) (Nat.le_of_ble_eq_true rfl) (hk _ _ _ _ _ ((if_neg d1).trans ((if_pos (by first | exact Or.inl w25 | exact Or.inr (Or.inl w36) | exact Or.inr (Or.inr ⟨z45, s45⟩))).trans ((if_pos ⟨z67, s67⟩).trans eq78))) lt78 hp78 hr78 hs78 hss78 hLB78 hV78 hE78 hF78) dX5_readUnit_103
          · refine Kq_i (k' := 0) (sl' := 0) rfl rfl ?_
            have hT78 := hF78.T hl hT
            have kn78 := kd_ne hk78 hk378
            refine V_goto 103 rfl dX5_readUnit_81 ?_
            refine V_ret_i rfl rfl (Nat.le_of_ble_eq_true rfl) (fun h => absurd h (by decide)) (Nat.le_of_ble_eq_true rfl) (hb _ _ _ _ _ _ ((if_neg d1).trans ((if_pos (by first | exact Or.inl w25 | exact Or.inr (Or.inl w36) | exact Or.inr (Or.inr ⟨z45, s45⟩))).trans ((if_pos ⟨z67, s67⟩).trans eq78))) hk78 hk378 hq78 hp78 h478 h578 hF78) dX5_readUnit_103
        · refine Kq_i (k' := 0) (sl' := 0) rfl rfl ?_
          have s67 : ¬ (p < z ∧ t p = 40) := fun q => s67 ⟨rfl, q⟩
          refine V_if_eq 84 73 rfl dX5_readUnit_70 rfl (fun c70 => ?_) (fun c70 => absurd c70 (by decide))
          refine V_aload_n 85 1 rfl _ rfl rfl dX5_readUnit_84 rfl ?_
          refine V_aload_n 86 2 rfl _ rfl rfl dX5_readUnit_85 rfl ?_
          refine V_iload_n 87 0 rfl rfl dX5_readUnit_86 rfl ?_
          refine V_if_eq 95 90 rfl dX5_readUnit_87 rfl (fun c87 => ?_) (fun c87 => absurd c87 (by decide))
          refine V_bipush 97 (8) rfl dX5_readUnit_95 rfl ?_
          refine V_iload_n 98 3 rfl rfl dX5_readUnit_97 rfl ?_
          refine V_iconst 99 (1) rfl dX5_readUnit_98 rfl ?_
          refine V_iadd 100 dX5_readUnit_99 rfl ?_
          refine V_rw (show _ = nI (6 - lev) from by rw [nI_1]; congr 1; omega) ?_
          refine V_callV (K' := 0) (S' := 0) 103 l 5 3 [rf G 1, .int 8, .int (nI (6 - lev))] mkX5_readPair lkX5_87 (by decide) rfl (ly_l hl).1 (by omega) rfl (Nat.le_of_ble_eq_true rfl) (Nat.le_of_ble_eq_true rfl) (Nat.le_of_ble_eq_true rfl) (Nat.le_of_ble_eq_true rfl) rfl rfl dX5_readUnit_100 rfl ((c_X5_readPair (kk := 8) (by decide) (by decide) hU) _ _ _ _ _ l p s _ (by omega) hRK hl hT h150 hp (by omega) hLB (fun e100 p100 I100 s100 r100 eq100 lt100 hp100 hr100 hs100 hss100 hLB100 hV100 hE100 hF100 => ?_) (fun k100 q100 p100 I100 v100 s100 eq100 hk100 hk3100 hq100 hp100 h4100 h5100 hF100 => ?_))
          · refine Kq_i (k' := 0) (sl' := 0) rfl rfl ?_
            have hT100 := hF100.T hl hT
            refine V_ret_i rfl rfl (Nat.le_of_ble_eq_true rfl) (fun h => absurd h (by decide)) (Nat.le_of_ble_eq_true rfl) (hk _ _ _ _ _ ((if_neg d1).trans ((if_pos (by first | exact Or.inl w25 | exact Or.inr (Or.inl w36) | exact Or.inr (Or.inr ⟨z45, s45⟩))).trans ((if_neg s67).trans ((congrArg (fun kk => pPair (pSum (pUnit t z lev) t z) t z kk p) (if_neg w25)).trans eq100)))) lt100 hp100 hr100 hs100 hss100 hLB100 hV100 hE100 hF100) dX5_readUnit_103
          · refine Kq_i (k' := 0) (sl' := 0) rfl rfl ?_
            have hT100 := hF100.T hl hT
            have kn100 := kd_ne hk100 hk3100
            refine V_ret_i rfl rfl (Nat.le_of_ble_eq_true rfl) (fun h => absurd h (by decide)) (Nat.le_of_ble_eq_true rfl) (hb _ _ _ _ _ _ ((if_neg d1).trans ((if_pos (by first | exact Or.inl w25 | exact Or.inr (Or.inl w36) | exact Or.inr (Or.inr ⟨z45, s45⟩))).trans ((if_neg s67).trans ((congrArg (fun kk => pPair (pSum (pUnit t z lev) t z) t z kk p) (if_neg w25)).trans eq100)))) hk100 hk3100 hq100 hp100 h4100 h5100 hF100) dX5_readUnit_103
      · refine Kq_i (k' := 0) (sl' := 0) rfl rfl ?_
        refine V_if_ne 51 42 rfl dX5_readUnit_39 rfl (fun c39 => absurd c39 (by decide)) (fun c39 => ?_)
        refine V_aload_n 43 2 rfl _ rfl rfl dX5_readUnit_42 rfl ?_
        refine V_bipush 45 (40) rfl dX5_readUnit_43 rfl ?_
        refine V_callV (K' := 0) (S' := 0) 48 1 8 1 [.int 40] mkX8_isSign lkX5_55 (by decide) rfl rfl (by decide) rfl (Nat.le_of_ble_eq_true rfl) (Nat.le_of_ble_eq_true rfl) (Nat.le_of_ble_eq_true rfl) (Nat.le_of_ble_eq_true rfl) rfl rfl dX5_readUnit_45 rfl (c_X8_isSign (c := 40) hRK hT (by decide) (by decide) (by decide) (fun _ z45 s45 => ?_) (fun s45 => ?_))
        · refine Kq_i (k' := 0) (sl' := 0) rfl rfl ?_
          refine V_if_eq 104 51 rfl dX5_readUnit_48 rfl (fun c48 => absurd c48 (by decide)) (fun c48 => ?_)
          refine V_iload_n 52 3 rfl rfl dX5_readUnit_51 rfl ?_
          refine V_bipush 54 (6) rfl dX5_readUnit_52 rfl ?_
          refine V_icmp_lt 64 57 rfl dX5_readUnit_54 rfl (fun c54 => ?_) (fun c54 => absurd (nI_lt (b := 6) (show 6 - (lev + 1) < 6 by omega) (by decide)) c54)
          refine V_aload_n 65 2 rfl _ rfl rfl dX5_readUnit_64 rfl ?_
          refine V_bipush 67 (40) rfl dX5_readUnit_65 rfl ?_
          refine V_callV (K' := 0) (S' := 0) 70 1 8 1 [.int 40] mkX8_isSign lkX5_55 (by decide) rfl rfl (by decide) rfl (Nat.le_of_ble_eq_true rfl) (Nat.le_of_ble_eq_true rfl) (Nat.le_of_ble_eq_true rfl) (Nat.le_of_ble_eq_true rfl) rfl rfl dX5_readUnit_67 rfl (c_X8_isSign (c := 40) hRK hT (by decide) (by decide) (by decide) (fun _ z67 s67 => ?_) (fun s67 => ?_))
          · refine Kq_i (k' := 0) (sl' := 0) rfl rfl ?_
            refine V_if_eq 84 73 rfl dX5_readUnit_70 rfl (fun c70 => absurd c70 (by decide)) (fun c70 => ?_)
            refine V_aload_n 74 1 rfl _ rfl rfl dX5_readUnit_73 rfl ?_
            refine V_aload_n 75 2 rfl _ rfl rfl dX5_readUnit_74 rfl ?_
            refine V_iload_n 76 3 rfl rfl dX5_readUnit_75 rfl ?_
            refine V_iconst 77 (1) rfl dX5_readUnit_76 rfl ?_
            refine V_iadd 78 dX5_readUnit_77 rfl ?_
            refine V_rw (show _ = nI (6 - lev) from by rw [nI_1]; congr 1; omega) ?_
            refine V_callV (K' := 0) (S' := 0) 81 l 5 2 [rf G 1, .int (nI (6 - lev))] mkX5_readInner lkX5_84 (by decide) rfl (ly_l hl).1 (by omega) rfl (Nat.le_of_ble_eq_true rfl) (Nat.le_of_ble_eq_true rfl) (Nat.le_of_ble_eq_true rfl) (Nat.le_of_ble_eq_true rfl) rfl rfl dX5_readUnit_78 rfl ((c_X5_readInner hU) _ _ _ _ _ l p s _ (by omega) hRK hl hT h150 hp (by omega) hLB (fun e78 p78 I78 s78 r78 eq78 lt78 hp78 hr78 hs78 hss78 hLB78 hV78 hE78 hF78 => ?_) (fun k78 q78 p78 I78 v78 s78 eq78 hk78 hk378 hq78 hp78 h478 h578 hF78 => ?_))
            · refine Kq_i (k' := 0) (sl' := 0) rfl rfl ?_
              have hT78 := hF78.T hl hT
              refine V_goto 103 rfl dX5_readUnit_81 ?_
              refine V_ret_i rfl rfl (Nat.le_of_ble_eq_true rfl) (fun h => absurd h (by decide)) (Nat.le_of_ble_eq_true rfl) (hk _ _ _ _ _ ((if_neg d1).trans ((if_pos (by first | exact Or.inl w25 | exact Or.inr (Or.inl w36) | exact Or.inr (Or.inr ⟨z45, s45⟩))).trans ((if_pos ⟨z67, s67⟩).trans eq78))) lt78 hp78 hr78 hs78 hss78 hLB78 hV78 hE78 hF78) dX5_readUnit_103
            · refine Kq_i (k' := 0) (sl' := 0) rfl rfl ?_
              have hT78 := hF78.T hl hT
              have kn78 := kd_ne hk78 hk378
              refine V_goto 103 rfl dX5_readUnit_81 ?_
              refine V_ret_i rfl rfl (Nat.le_of_ble_eq_true rfl) (fun h => absurd h (by decide)) (Nat.le_of_ble_eq_true rfl) (hb _ _ _ _ _ _ ((if_neg d1).trans ((if_pos (by first | exact Or.inl w25 | exact Or.inr (Or.inl w36) | exact Or.inr (Or.inr ⟨z45, s45⟩))).trans ((if_pos ⟨z67, s67⟩).trans eq78))) hk78 hk378 hq78 hp78 h478 h578 hF78) dX5_readUnit_103
          · refine Kq_i (k' := 0) (sl' := 0) rfl rfl ?_
            have s67 : ¬ (p < z ∧ t p = 40) := fun q => s67 ⟨rfl, q⟩
            refine V_if_eq 84 73 rfl dX5_readUnit_70 rfl (fun c70 => ?_) (fun c70 => absurd c70 (by decide))
            refine V_aload_n 85 1 rfl _ rfl rfl dX5_readUnit_84 rfl ?_
            refine V_aload_n 86 2 rfl _ rfl rfl dX5_readUnit_85 rfl ?_
            refine V_iload_n 87 0 rfl rfl dX5_readUnit_86 rfl ?_
            refine V_if_eq 95 90 rfl dX5_readUnit_87 rfl (fun c87 => ?_) (fun c87 => absurd c87 (by decide))
            refine V_bipush 97 (8) rfl dX5_readUnit_95 rfl ?_
            refine V_iload_n 98 3 rfl rfl dX5_readUnit_97 rfl ?_
            refine V_iconst 99 (1) rfl dX5_readUnit_98 rfl ?_
            refine V_iadd 100 dX5_readUnit_99 rfl ?_
            refine V_rw (show _ = nI (6 - lev) from by rw [nI_1]; congr 1; omega) ?_
            refine V_callV (K' := 0) (S' := 0) 103 l 5 3 [rf G 1, .int 8, .int (nI (6 - lev))] mkX5_readPair lkX5_87 (by decide) rfl (ly_l hl).1 (by omega) rfl (Nat.le_of_ble_eq_true rfl) (Nat.le_of_ble_eq_true rfl) (Nat.le_of_ble_eq_true rfl) (Nat.le_of_ble_eq_true rfl) rfl rfl dX5_readUnit_100 rfl ((c_X5_readPair (kk := 8) (by decide) (by decide) hU) _ _ _ _ _ l p s _ (by omega) hRK hl hT h150 hp (by omega) hLB (fun e100 p100 I100 s100 r100 eq100 lt100 hp100 hr100 hs100 hss100 hLB100 hV100 hE100 hF100 => ?_) (fun k100 q100 p100 I100 v100 s100 eq100 hk100 hk3100 hq100 hp100 h4100 h5100 hF100 => ?_))
            · refine Kq_i (k' := 0) (sl' := 0) rfl rfl ?_
              have hT100 := hF100.T hl hT
              refine V_ret_i rfl rfl (Nat.le_of_ble_eq_true rfl) (fun h => absurd h (by decide)) (Nat.le_of_ble_eq_true rfl) (hk _ _ _ _ _ ((if_neg d1).trans ((if_pos (by first | exact Or.inl w25 | exact Or.inr (Or.inl w36) | exact Or.inr (Or.inr ⟨z45, s45⟩))).trans ((if_neg s67).trans ((congrArg (fun kk => pPair (pSum (pUnit t z lev) t z) t z kk p) (if_neg w25)).trans eq100)))) lt100 hp100 hr100 hs100 hss100 hLB100 hV100 hE100 hF100) dX5_readUnit_103
            · refine Kq_i (k' := 0) (sl' := 0) rfl rfl ?_
              have hT100 := hF100.T hl hT
              have kn100 := kd_ne hk100 hk3100
              refine V_ret_i rfl rfl (Nat.le_of_ble_eq_true rfl) (fun h => absurd h (by decide)) (Nat.le_of_ble_eq_true rfl) (hb _ _ _ _ _ _ ((if_neg d1).trans ((if_pos (by first | exact Or.inl w25 | exact Or.inr (Or.inl w36) | exact Or.inr (Or.inr ⟨z45, s45⟩))).trans ((if_neg s67).trans ((congrArg (fun kk => pPair (pSum (pUnit t z lev) t z) t z kk p) (if_neg w25)).trans eq100)))) hk100 hk3100 hq100 hp100 h4100 h5100 hF100) dX5_readUnit_103
        · refine Kq_i (k' := 0) (sl' := 0) rfl rfl ?_
          have s45 : ¬ (p < z ∧ t p = 40) := fun q => s45 ⟨rfl, q⟩
          refine V_if_eq 104 51 rfl dX5_readUnit_48 rfl (fun c48 => ?_) (fun c48 => absurd c48 (by decide))
          refine V_aload_n 105 2 rfl _ rfl rfl dX5_readUnit_104 rfl ?_
          refine V_callS (K' := 0) (S' := 0) 108 1 [rf G 1] mkX5_factOf lkX5_91 rfl (Nat.le_of_ble_eq_true rfl) (Nat.le_of_ble_eq_true rfl) (Nat.le_of_ble_eq_true rfl) (Nat.le_of_ble_eq_true rfl) rfl rfl dX5_readUnit_105 rfl (c_X5_factOf hRK hT hp ?_)
          refine Kq_i (k' := 0) (sl' := 0) rfl rfl ?_
          refine V_istore 110 [(4, .int (oI (ftF t z p))), (3, .int 0), (0, rf G l), (1, rf G 1), (2, .int (nI (6 - (lev + 1))))] (by decide) rfl dX5_readUnit_108 rfl ?_
          cases ef : ftF t z p with
          | none =>
            show V _ _ _ _ _ _ _ _ [(4, .int (-1)), (3, .int 0), (0, rf G l), (1, rf G 1), (2, .int (nI (6 - (lev + 1))))] [] _ _ _ _ _
            refine V_iload 112 0 rfl dX5_readUnit_110 rfl ?_
            refine V_iconst 113 (-1) rfl dX5_readUnit_112 rfl ?_
            refine V_icmp_ne 123 116 rfl dX5_readUnit_113 rfl (fun c113 => absurd rfl c113) (fun c113 => ?_)
            refine V_aload_n 117 3 rfl _ rfl rfl dX5_readUnit_116 rfl ?_
            refine V_iconst 118 (1) rfl dX5_readUnit_117 rfl ?_
            refine V_callV (K' := 0) (S' := 0) 121 1 8 1 [.int 1] mkX8_fail lkX5_45 (by decide) rfl rfl (by decide) rfl (Nat.le_of_ble_eq_true rfl) (Nat.le_of_ble_eq_true rfl) (Nat.le_of_ble_eq_true rfl) (Nat.le_of_ble_eq_true rfl) rfl rfl dX5_readUnit_118 rfl (c_X8_fail (k := 1) hRK hT (fun e => absurd rfl e) (fun _ => ?_))
            refine Kq_v (k' := 0) (sl' := 0) rfl rfl ?_
            refine V_iconst 122 (0) rfl dX5_readUnit_121 rfl ?_
            refine V_ret_i rfl rfl (Nat.le_of_ble_eq_true rfl) (fun h => absurd h (by decide)) (Nat.le_of_ble_eq_true rfl) (hb 1 p p I 0 s ((if_neg d1).trans ((if_neg (fun q => q.elim w25 (fun q => q.elim w36 s45))).trans (by show pFact t z p = _; unfold pFact; rw [ef]))) (by decide) (by decide) hp hp hLB.1 hLB.2.1 FrL.rf) dX5_readUnit_122
          | some ft =>
            have hft := ftF_lt ef
            have hpz : p < z := by
              by_cases q : p < z
              · exact q
              · exfalso
                have e0 : wcF t z p = 0 := by unfold wcF; rw [sc_st (fun h => q h.1), Nat.sub_self]; rfl
                have en : ftF t z p = none := by unfold ftF; rw [e0]; decide +kernel
                rw [ef] at en; cases en
            show V _ _ _ _ _ _ _ _ [(4, .int (nI ft)), (3, .int 0), (0, rf G l), (1, rf G 1), (2, .int (nI (6 - (lev + 1))))] [] _ _ _ _ _
            refine V_iload 112 0 rfl dX5_readUnit_110 rfl ?_
            refine V_iconst 113 (-1) rfl dX5_readUnit_112 rfl ?_
            refine V_icmp_ne 123 116 rfl dX5_readUnit_113 rfl (fun c113 => ?_) (fun c113 => absurd c113 (nI_ne (by omega)))
            refine V_aload_n 124 3 rfl _ rfl rfl dX5_readUnit_123 rfl ?_
            refine V_callV (K' := 0) (S' := 0) 127 1 8 0 [] mkX8_next lkX5_59 (by decide) rfl rfl (by decide) rfl (Nat.le_of_ble_eq_true rfl) (Nat.le_of_ble_eq_true rfl) (Nat.le_of_ble_eq_true rfl) (Nat.le_of_ble_eq_true rfl) rfl rfl dX5_readUnit_124 rfl (c_X8_next hRK hT (enF_z hp).2.1 ?_)
            refine Kq_v (k' := 0) (sl' := 0) rfl rfl ?_
            refine V_aload_n 128 2 rfl _ rfl rfl dX5_readUnit_127 rfl ?_
            refine V_iconst 129 (1) rfl dX5_readUnit_128 rfl ?_
            refine V_iload 131 0 rfl dX5_readUnit_129 rfl ?_
            refine V_iconst 132 (0) rfl dX5_readUnit_131 rfl ?_
            have hj132 := jn_f (a := ft) hLB (by omega) hft
            refine V_callV (K' := 0) (S' := 0) 135 l 5 3 [.int 1, .int (nI ft), .int 0] mkX5_join lkX5_31 (by decide) rfl (ly_l hl).1 (by omega) rfl (Nat.le_of_ble_eq_true rfl) (Nat.le_of_ble_eq_true rfl) (Nat.le_of_ble_eq_true rfl) (Nat.le_of_ble_eq_true rfl) rfl rfl dX5_readUnit_132 rfl (c_X5_joinT hRK hl hLB.1 (by omega) ?_)
            refine Kq_i (k' := 0) (sl' := 0) rfl rfl ?_
            refine V_ret_i rfl rfl (Nat.le_of_ble_eq_true rfl) (fun h => absurd h (by decide)) (Nat.le_of_ble_eq_true rfl) (hk _ _ _ _ _ ((if_neg d1).trans ((if_neg (fun q => q.elim w25 (fun q => q.elim w36 s45))).trans (by show pFact t z p = _; unfold pFact; rw [ef]; rfl))) (n3 hpz) n2 (by omega) (by omega) (by have := n3 hpz; omega) hj132.1 hj132.2 jn_ext jn_fr) dX5_readUnit_135
/-- all of it, by how many may still be opened -/
def dLw : Nat → Nat
  | 0 => 20
  | lev + 1 => dLw lev + 10 + 10 + 20
theorem c_X5_all {G : Gx} {t : Nat → Nat} {z : Nat} : ∀ lev, lev ≤ 6 → LCt G mX5_readSum (dLw lev + 10 + 10) [.int (nI (6 - lev))] t z (pSum (pUnit t z lev) t z) := by
  intro lev
  induction lev with
  | zero => intro _; exact c_X5_readSum (c_X5_readProduct (o := 6) (c_X5_readUnit0 (D0 := 0)))
  | succ lev ih =>
    intro h
    have hU := c_X5_readUnitS (by omega) (ih (by omega))
    exact c_X5_readSum (c_X5_readProduct hU)
