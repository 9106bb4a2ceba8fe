theorem good_lay {C : String} {T : u_T} {N : Nat} {w : Cond} (h : w ∈ u_ws C T N) : goodWord w = true := by
  obtain ⟨k, -, rfl⟩ := List.mem_map.mp h
  unfold u_lay
  split <;> rfl
/-- a class of the world, by its number -/
def ClOk (ci : Nat) : Prop := vwCl[ci]? = some (clC ci, clT ci, clN ci) ∧ (∀ w ∈ u_ws (clC ci) (clT ci) (clN ci), w ∈ TSg) ∧ (∀ k, k < clN ci → parseFieldDescriptor (clT ci k).2.2.1 = some (clTy ci k)) ∧ (∀ a, a < clN ci → ∀ b, b < clN ci → a ≠ b → (clT ci a).2.1 ≠ (clT ci b).2.1)
theorem cl_ok : ∀ ci, ci < 12 → ClOk ci
  | 0, _ => ⟨rfl, fun w h => TSg_mem (inX0 w h) (good_lay h), tyX0_ok, nmX0⟩
  | 1, _ => ⟨rfl, fun w h => TSg_mem (inX1 w h) (good_lay h), tyX1_ok, nmX1⟩
  | 2, _ => ⟨rfl, fun w h => TSg_mem (inX2 w h) (good_lay h), tyX2_ok, nmX2⟩
  | 3, _ => ⟨rfl, fun w h => TSg_mem (inX3 w h) (good_lay h), tyX3_ok, nmX3⟩
  | 4, _ => ⟨rfl, fun w h => TSg_mem (inX4 w h) (good_lay h), tyX4_ok, nmX4⟩
  | 5, _ => ⟨rfl, fun w h => TSg_mem (inX5 w h) (good_lay h), tyX5_ok, nmX5⟩
  | 6, _ => ⟨rfl, fun w h => TSg_mem (inX6 w h) (good_lay h), tyX6_ok, nmX6⟩
  | 7, _ => ⟨rfl, fun w h => TSg_mem (inX7 w h) (good_lay h), tyX7_ok, nmX7⟩
  | 8, _ => ⟨rfl, fun w h => TSg_mem (inX8 w h) (good_lay h), tyX8_ok, nmX8⟩
  | 9, _ => ⟨rfl, fun w h => TSg_mem (inX9 w h) (good_lay h), tyX9_ok, nmX9⟩
  | 10, _ => ⟨rfl, fun w h => TSg_mem (inX10 w h) (good_lay h), tyX10_ok, nmX10⟩
  | 11, _ => ⟨rfl, fun w h => TSg_mem (inX11 w h) (good_lay h), tyX11_ok, nmX11⟩
  | ci + 12, h => absurd h (by omega)
def isRT (t : FieldType) : Bool := match t with
  | .object _ => true
  | .array _ => true
  | _ => false
theorem fI_ok : ∀ ci, ci < 12 → ∀ k, k < clN ci → (fI ci k = true → clTy ci k = .int) ∧ (fI ci k = false → isRT (clTy ci k) = true) := by decide +kernel
/-- the link of a field's instruction -/
def FL (own : String) (ix ci f : Nat) : Prop := ci < 12 ∧ f < clN ci ∧ (Cond.fieldLink own ix (clT ci f).1 (clT ci f).2.1 (clT ci f).2.2.1 ∈ TSg ∨ ∃ host, Cond.fieldLinkNest own ix (clT ci f).1 (clT ci f).2.1 (clT ci f).2.2.1 host ∈ NW)
theorem narrow_rO (t : FieldType) (ht : isRT t = true) (G : Gx) (r : Option Nat) : narrow t (rO G r) = rO G r ∧ fits t (rO G r) = true := by
  cases t <;> simp [isRT] at ht <;> cases r <;> exact ⟨rfl, rfl⟩
section VF
variable {G : Gx} {md : MD} {d K S k sl pc : Nat} {lv : List (Nat × Value)} {rest : List Value} {n : Nat} {I : FI} {R : FR} {J : FJ} {Q : Po}
theorem Rp.put {G : Gx} {A : Nat → Prop} {n i : Nat} {I I' : FI} {R R' : FR} {J J' : FJ} {e : va_E} {H1 : Heap} (hn : i < n) (he : e = wC G I' R' J' i) (ho : ∀ j, j ≠ i → wC G I' R' J' j = wC G I R J j) (hP : va_P (g_D G) vwCl ((wW G n I R J).set i (g_b G + i, e)) H1) : Rp G n I' R' J' H1 := by
  rw [wW_put he ho] at hP
  refine ⟨hP, ?_⟩
  have h := (hP (n - 1) _ (wW_get (G := G) (I := I') (R := R') (J := J') (show n - 1 < n by omega))).lt
  have h2 : g_b G + (n - 1) < H1.size := h
  omega
theorem V_get0 (pc' : Nat) {own : String} {ix : Nat} (i ci f : Nat) (hF : FL own ix ci f) (ho : own = (mY md).cls) (hy : lay i = .inl ci) (hn : i < n) (hd : decode (mB md) pc = .ok (.getfield ix, 3)) (hp : pc + 3 = pc') (kk : V G md d K S k sl pc' lv (wF G I R i ci f :: rest) n I R J Q) : V G md d K S k sl pc lv (rf G i :: rest) n I R J Q := by
  subst hp; subst ho
  intro p e s m args below meth c n0 C H locs ls hR hz hS hl
  obtain ⟨h12, hf, hw⟩ := hF
  obtain ⟨c1, c2, -, -⟩ := cl_ok ci h12
  have hts : ∀ w ∈ mWs md, w.before args s = true := C.2.2.2.2.2.1
  have hE : Ev G s := C.2.2.2.2.2.2.2.2.2.1
  have he : (wW G n I R J)[i]? = some (g_b G + i, .inr (ci, (List.range (clN ci)).map (wF G I R i ci))) := by rw [wW_get hn, wC_o hy]
  rcases hw with hw | ⟨host, hw⟩
  · exact va_get C.1 C.2.1 (own := (mY md).cls) (ref := (clT ci f).1) hts (fun w h => List.mem_cons_of_mem _ (c2 w h)) C.2.2.2.2.1 hE.2.2.1 hR.1 i he c1 f hf (hts _ (List.mem_cons_of_mem _ hw)) (fun x h => h) (map_get hf) hd (kk p e s m args below meth c n0 C H locs ls hR hz hS hl)
  · exact va_getN C.1 C.2.1 (own := (mY md).cls) (ref := (clT ci f).1) hts (fun w h => List.mem_cons_of_mem _ (c2 w h)) C.2.2.2.2.1 hE.2.2.1 hR.1 i he c1 f hf (va_Nw.use (NW_tab hw) (hE.2.2.2.1 _ hw)) (fun x h => h) (map_get hf) hd (kk p e s m args below meth c n0 C H locs ls hR hz hS hl)
theorem V_getI (pc' : Nat) {own : String} {ix : Nat} (i ci f : Nat) (v : Int32) (hv : I i f = v) (hF : FL own ix ci f) (ho : own = (mY md).cls) (hy : lay i = .inl ci) (hI : fI ci f = true) (hn : i < n) (hd : decode (mB md) pc = .ok (.getfield ix, 3)) (hp : pc + 3 = pc') (kk : V G md d K S k sl pc' lv (.int v :: rest) n I R J Q) : V G md d K S k sl pc lv (rf G i :: rest) n I R J Q :=
  V_get0 pc' i ci f hF ho hy hn hd hp (by unfold wF; rw [if_pos hI, hv]; exact kk)
theorem V_getR (pc' : Nat) {own : String} {ix : Nat} (i ci f j : Nat) (hv : R i f = some j) (hF : FL own ix ci f) (ho : own = (mY md).cls) (hy : lay i = .inl ci) (hI : fI ci f = false) (hn : i < n) (hd : decode (mB md) pc = .ok (.getfield ix, 3)) (hp : pc + 3 = pc') (kk : V G md d K S k sl pc' lv (rf G j :: rest) n I R J Q) : V G md d K S k sl pc lv (rf G i :: rest) n I R J Q :=
  V_get0 pc' i ci f hF ho hy hn hd hp (by unfold wF; rw [if_neg (by rw [hI]; exact Bool.false_ne_true), hv]; exact kk)
/-- a field is written: v is its new value, as the state has it -/
theorem V_put0 (pc' : Nat) {own : String} {ix : Nat} (i ci f : Nat) (v : Value) (I' : FI) (R' : FR) (hF : FL own ix ci f) (ho : own = (mY md).cls) (hy : lay i = .inl ci) (hn : i < n) (hfin : (clT ci f).2.2.2 = false ∨ (clT ci f).2.2.2 = true ∧ (mY md).name = "<init>" ∧ (clT ci f).1 = own ∧ Cond.fieldLink own ix (clT ci f).1 (clT ci f).2.1 (clT ci f).2.2.1 ∈ TSg) (hnar : narrow (clTy ci f) v = v) (hfit : fits (clTy ci f) v = true)
    (hv : v = wF G I' R' i ci f) (hsame : ∀ j, j ≠ f → wF G I' R' i ci j = wF G I R i ci j) (hoth : ∀ j, j ≠ i → I' j = I j ∧ R' j = R j)
    (hd : decode (mB md) pc = .ok (.putfield ix, 3)) (hp : pc + 3 = pc') (kk : V G md d K S k sl pc' lv rest n I' R' J Q) : V G md d K S k sl pc lv (v :: rf G i :: rest) n I R J Q := by
  subst hp; subst ho
  intro p e s m args below meth c n0 C H locs ls hR hz hS hl
  obtain ⟨h12, hf, hw⟩ := hF
  obtain ⟨c1, c2, c3, c4⟩ := cl_ok ci h12
  have hts : ∀ w ∈ mWs md, w.before args s = true := C.2.2.2.2.2.1
  have hE : Ev G s := C.2.2.2.2.2.2.2.2.2.1
  have he : (wW G n I R J)[i]? = some (g_b G + i, .inr (ci, (List.range (clN ci)).map (wF G I R i ci))) := by rw [wW_get hn, wC_o hy]
  have hlen : f < ((List.range (clN ci)).map (wF G I R i ci)).length := by simpa using hf
  have key : ∀ (H1 : Heap) (locs1 : List Loc), va_P (g_D G) vwCl ((wW G n I R J).set i (g_b G + i, .inr (ci, ((List.range (clN ci)).map (wF G I R i ci)).set f v))) H1 → va_D (gA G) ((wW G n I R J).set i (g_b G + i, .inr (ci, ((List.range (clN ci)).map (wF G I R i ci)).set f v))) → va_S (gA G) s.heap H1 locs1 →
      W p (g_l G) e (rmD d K S) s m args below meth c H1 locs1 k sl (vx_MQ below (qc G Q n0 K) (xc G Q) args s K S (gA G)) (F0 m (pc + 3) ls rest) := by
    intro H1 locs1 hP1 hD1 hS1
    refine kk p e s m args below meth c n0 C H1 locs1 ls (Rp.put (A := gA G) (i := i) hn ?_ (fun j hj => wC_at (hoth j hj).1 (hoth j hj).2 rfl) hP1) hz hS1 hl
    rw [wC_o hy, map_set hv hsame]
  rcases hfin with hfin | ⟨hfin, hin, hdecl, hw⟩
  · rcases hw with hw | ⟨host, hw⟩
    · exact va_put C.1 C.2.1 (own := (mY md).cls) (ref := (clT ci f).1) hts (fun w h => List.mem_cons_of_mem _ (c2 w h)) (clTy ci) c3 c4 C.2.2.2.2.1 hE.2.2.1 hR.1 wD hS i he c1 f hf (hts _ (List.mem_cons_of_mem _ hw)) (fun x h => h) hfin (c3 f hf) hnar hfit hlen hd key
    · exact va_putN C.1 C.2.1 (own := (mY md).cls) (ref := (clT ci f).1) hts (fun w h => List.mem_cons_of_mem _ (c2 w h)) (clTy ci) c3 c4 C.2.2.2.2.1 hE.2.2.1 hR.1 wD hS i he c1 f hf (va_Nw.use (NW_tab hw) (hE.2.2.2.1 _ hw)) (fun x h => h) hfin (c3 f hf) hnar hfit hlen hd key
  · exact va_putF C.1 C.2.1 (own := (mY md).cls) (ref := (clT ci f).1) hts (fun w h => List.mem_cons_of_mem _ (c2 w h)) (clTy ci) c3 c4 C.2.2.2.2.1 hE.2.2.1 hR.1 wD hS i he c1 f hf (hts _ (List.mem_cons_of_mem _ hw)) (fun x h => h) hfin (C.2.2.2.2.2.2.2.2.1.trans hin) hdecl (c3 f hf) hnar hfit hlen hd key
theorem V_putI (pc' : Nat) {own : String} {ix : Nat} {v : Int32} (i ci f : Nat) (hF : FL own ix ci f) (ho : own = (mY md).cls) (hy : lay i = .inl ci) (hI : fI ci f = true) (hn : i < n) (hfin : (clT ci f).2.2.2 = false) (hd : decode (mB md) pc = .ok (.putfield ix, 3)) (hp : pc + 3 = pc') (kk : V G md d K S k sl pc' lv rest n (up2 I i f v) R J Q) : V G md d K S k sl pc lv (.int v :: rf G i :: rest) n I R J Q := by
  have ht := (fI_ok ci hF.1 f hF.2.1).1 hI
  refine V_put0 pc' i ci f (.int v) (up2 I i f v) R hF ho hy hn (Or.inl hfin) (by rw [ht]; rfl) (by rw [ht]; rfl) ?_ (fun j hj => ?_) (fun j hj => ⟨up2_n I f v hj, rfl⟩) hd hp kk
  · unfold wF; rw [if_pos hI, up2_s]; simp [upd]
  · unfold wF; rw [up2_s]; simp [upd, hj]
theorem V_putR (pc' : Nat) {own : String} {ix : Nat} (i ci f j : Nat) (hF : FL own ix ci f) (ho : own = (mY md).cls) (hy : lay i = .inl ci) (hI : fI ci f = false) (hn : i < n) (hfin : (clT ci f).2.2.2 = false ∨ (clT ci f).2.2.2 = true ∧ (mY md).name = "<init>" ∧ (clT ci f).1 = own ∧ Cond.fieldLink own ix (clT ci f).1 (clT ci f).2.1 (clT ci f).2.2.1 ∈ TSg) (hd : decode (mB md) pc = .ok (.putfield ix, 3)) (hp : pc + 3 = pc') (kk : V G md d K S k sl pc' lv rest n I (upR R i f (some j)) J Q) : V G md d K S k sl pc lv (rf G j :: rf G i :: rest) n I R J Q := by
  have ht := (fI_ok ci hF.1 f hF.2.1).2 hI
  obtain ⟨h1, h2⟩ := narrow_rO _ ht G (some j)
  refine V_put0 pc' i ci f (rf G j) I (upR R i f (some j)) hF ho hy hn hfin h1 h2 ?_ (fun a ha => ?_) (fun a ha => ⟨rfl, upR_n R f _ ha⟩) hd hp kk
  · unfold wF; rw [if_neg (by rw [hI]; exact Bool.false_ne_true), upR_s]; simp [rO]
  · unfold wF; rw [upR_s]; simp [ha]
/-- arrays -/
theorem V_iald (pc' : Nat) {x : Int32} (i len : Nat) (v : Int32) (hv : I i x.toNatClampNeg = v) (hin : vp_in x len) (hy : lay i = .inr (0, len)) (hn : i < n) (hd : decode (mB md) pc = .ok (.iaload, 1)) (hp : pc + 1 = pc') (kk : V G md d K S k sl pc' lv (.int v :: rest) n I R J Q) : V G md d K S k sl pc lv (.int x :: rf G i :: rest) n I R J Q := by
  subst hp; subst hv
  intro p e s m args below meth c n0 C H locs ls hR hz hS hl
  exact va_iald C.1 C.2.1 C.2.2.2.2.2.2.2.2.2.1.2.2.1 hR.1 i 0 (by rw [wW_get hn, wC_i hy (by decide)]) rfl hin hd (kk p e s m args below meth c n0 C H locs ls hR hz hS hl)
theorem V_bald (pc' : Nat) {x : Int32} (i len : Nat) (v : Int32) (hv : I i x.toNatClampNeg = v) (hin : vp_in x len) (hy : lay i = .inr (1, len)) (hn : i < n) (hd : decode (mB md) pc = .ok (.baload, 1)) (hp : pc + 1 = pc') (kk : V G md d K S k sl pc' lv (.int v :: rest) n I R J Q) : V G md d K S k sl pc lv (.int x :: rf G i :: rest) n I R J Q := by
  subst hp; subst hv
  intro p e s m args below meth c n0 C H locs ls hR hz hS hl
  exact va_bald C.1 C.2.1 C.2.2.2.2.2.2.2.2.2.1.2.2.1 hR.1 i 1 (by rw [wW_get hn, wC_i hy (by decide)]) rfl hin hd (kk p e s m args below meth c n0 C H locs ls hR hz hS hl)
theorem V_zald (pc' : Nat) {x : Int32} (i len : Nat) (v : Int32) (hv : I i x.toNatClampNeg = v) (hin : vp_in x len) (hy : lay i = .inr (2, len)) (hn : i < n) (hd : decode (mB md) pc = .ok (.baload, 1)) (hp : pc + 1 = pc') (kk : V G md d K S k sl pc' lv (.int v :: rest) n I R J Q) : V G md d K S k sl pc lv (.int x :: rf G i :: rest) n I R J Q := by
  subst hp; subst hv
  intro p e s m args below meth c n0 C H locs ls hR hz hS hl
  exact va_zald C.1 C.2.1 C.2.2.2.2.2.2.2.2.2.1.2.2.1 hR.1 i 2 (by rw [wW_get hn, wC_i hy (by decide)]) rfl hin hd (kk p e s m args below meth c n0 C H locs ls hR hz hS hl)
theorem V_lald (pc' : Nat) {x : Int32} (i len : Nat) (v : Int64) (hv : J i x.toNatClampNeg = v) (hin : vp_in x len) (hy : lay i = .inr (3, len)) (hn : i < n) (hd : decode (mB md) pc = .ok (.laload, 1)) (hp : pc + 1 = pc') (kk : V G md d K S k sl pc' lv (.long v :: rest) n I R J Q) : V G md d K S k sl pc lv (.int x :: rf G i :: rest) n I R J Q := by
  subst hp; subst hv
  intro p e s m args below meth c n0 C H locs ls hR hz hS hl
  exact va_lald C.1 C.2.1 C.2.2.2.2.2.2.2.2.2.1.2.2.1 hR.1 i 3 (by rw [wW_get hn, wC_j hy]) rfl hin hd (kk p e s m args below meth c n0 C H locs ls hR hz hS hl)
theorem V_iast (pc' : Nat) {x v : Int32} (i len : Nat) (hin : vp_in x len) (hy : lay i = .inr (0, len)) (hn : i < n) (hd : decode (mB md) pc = .ok (.iastore, 1)) (hp : pc + 1 = pc') (kk : V G md d K S k sl pc' lv rest n (up2 I i x.toNatClampNeg v) R J Q) : V G md d K S k sl pc lv (.int v :: .int x :: rf G i :: rest) n I R J Q := by
  subst hp
  intro p e s m args below meth c n0 C H locs ls hR hz hS hl
  refine va_iast C.1 C.2.1 C.2.2.2.2.2.2.2.2.2.1.2.2.1 hR.1 wD hS i 0 (by rw [wW_get hn, wC_i hy (by decide)]) rfl hin hd (fun H1 locs1 hP1 hD1 hS1 => ?_)
  exact kk p e s m args below meth c n0 C H1 locs1 ls (Rp.put (A := gA G) (i := i) hn (by rw [wC_i hy (by decide), up2_s]) (fun j hj => wC_at (up2_n I _ _ hj) rfl rfl) hP1) hz hS1 hl
theorem V_bast (pc' : Nat) {x v : Int32} (i len : Nat) (hin : vp_in x len) (hy : lay i = .inr (1, len)) (hn : i < n) (hd : decode (mB md) pc = .ok (.bastore, 1)) (hp : pc + 1 = pc') (kk : V G md d K S k sl pc' lv rest n (up2 I i x.toNatClampNeg (vp_nar .byte v)) R J Q) : V G md d K S k sl pc lv (.int v :: .int x :: rf G i :: rest) n I R J Q := by
  subst hp
  intro p e s m args below meth c n0 C H locs ls hR hz hS hl
  refine va_bast C.1 C.2.1 C.2.2.2.2.2.2.2.2.2.1.2.2.1 hR.1 wD hS i 1 (by rw [wW_get hn, wC_i hy (by decide)]) rfl hin hd (fun H1 locs1 hP1 hD1 hS1 => ?_)
  exact kk p e s m args below meth c n0 C H1 locs1 ls (Rp.put (A := gA G) (i := i) hn (by rw [wC_i hy (by decide), up2_s]) (fun j hj => wC_at (up2_n I _ _ hj) rfl rfl) hP1) hz hS1 hl
theorem V_zast (pc' : Nat) {x v : Int32} (i len : Nat) (hin : vp_in x len) (hy : lay i = .inr (2, len)) (hn : i < n) (hd : decode (mB md) pc = .ok (.bastore, 1)) (hp : pc + 1 = pc') (kk : V G md d K S k sl pc' lv rest n (up2 I i x.toNatClampNeg (vp_nar .boolean v)) R J Q) : V G md d K S k sl pc lv (.int v :: .int x :: rf G i :: rest) n I R J Q := by
  subst hp
  intro p e s m args below meth c n0 C H locs ls hR hz hS hl
  refine va_zast C.1 C.2.1 C.2.2.2.2.2.2.2.2.2.1.2.2.1 hR.1 wD hS i 2 (by rw [wW_get hn, wC_i hy (by decide)]) rfl hin hd (fun H1 locs1 hP1 hD1 hS1 => ?_)
  exact kk p e s m args below meth c n0 C H1 locs1 ls (Rp.put (A := gA G) (i := i) hn (by rw [wC_i hy (by decide), up2_s]) (fun j hj => wC_at (up2_n I _ _ hj) rfl rfl) hP1) hz hS1 hl
theorem V_last (pc' : Nat) {x : Int32} {v : Int64} (i len : Nat) (hin : vp_in x len) (hy : lay i = .inr (3, len)) (hn : i < n) (hd : decode (mB md) pc = .ok (.lastore, 1)) (hp : pc + 1 = pc') (kk : V G md d K S k sl pc' lv rest n I R (upJ J i x.toNatClampNeg v) Q) : V G md d K S k sl pc lv (.long v :: .int x :: rf G i :: rest) n I R J Q := by
  subst hp
  intro p e s m args below meth c n0 C H locs ls hR hz hS hl
  refine va_last C.1 C.2.1 C.2.2.2.2.2.2.2.2.2.1.2.2.1 hR.1 wD hS i 3 (by rw [wW_get hn, wC_j hy]) rfl hin hd (fun H1 locs1 hP1 hD1 hS1 => ?_)
  exact kk p e s m args below meth c n0 C H1 locs1 ls (Rp.put (A := gA G) (i := i) hn (by rw [wC_j hy]; simp [upJ]) (fun j hj => wC_at rfl rfl (by simp [upJ, hj])) hP1) hz hS1 hl
theorem V_alen (pc' : Nat) (i t len : Nat) (v : Int32) (hv : Int32.ofNat len = v) (ht : t < 4) (hy : lay i = .inr (t, len)) (hn : i < n) (hd : decode (mB md) pc = .ok (.arraylength, 1)) (hp : pc + 1 = pc') (kk : V G md d K S k sl pc' lv (.int v :: rest) n I R J Q) : V G md d K S k sl pc lv (rf G i :: rest) n I R J Q := by
  subst hp; subst hv
  intro p e s m args below meth c n0 C H locs ls hR hz hS hl
  have hK := C.2.2.2.2.2.2.2.2.2.1.2.2.1
  have he : (wW G n I R J)[i]? = some (g_b G + i, .inl (g_T G t, len, if t = 3 then .inr (.inl (J i)) else .inl (I i))) := by
    rw [wW_get hn]; unfold wC; rw [hy]
  have hty : (g_tys G)[t]? = some (g_T G t, tyOf t) := by
    match t, ht with
    | 0, _ => rfl
    | 1, _ => rfl
    | 2, _ => rfl
    | 3, _ => rfl
  exact va_alen C.1 C.2.1 hK hR.1 i t he hty rfl hd (kk p e s m args below meth c n0 C H locs ls hR hz hS hl)
/-- the law's script -/
theorem V_sld (pc' : Nat) {x : Int32} (v : Int32) (hv : g_x G x.toNatClampNeg = v) (hin : vp_in x (g_L G)) (hd : decode (mB md) pc = .ok (.iaload, 1)) (hp : pc + 1 = pc') (kk : V G md d K S k sl pc' lv (.int v :: rest) n I R J Q) : V G md d K S k sl pc lv (.int x :: .ref (g_s G) :: rest) n I R J Q := by
  subst hp; subst hv
  intro p e s m args below meth c n0 C H locs ls hR hz hS hl
  obtain ⟨-, h2, -, -, -, -, -, -, -, hX, hb, -, -⟩ := C.2.2.2.2.2.2.2.2.2.1
  exact va_sld C.1 C.2.1 hX (Nat.lt_of_lt_of_le hb h2) (Nat.not_le.mpr hb) hS hin hd (kk p e s m args below meth c n0 C H locs ls hR hz hS hl)
theorem V_slen (pc' : Nat) (hd : decode (mB md) pc = .ok (.arraylength, 1)) (hp : pc + 1 = pc') (kk : V G md d K S k sl pc' lv (.int (nI (g_L G)) :: rest) n I R J Q) : V G md d K S k sl pc lv (.ref (g_s G) :: rest) n I R J Q := by
  subst hp
  intro p e s m args below meth c n0 C H locs ls hR hz hS hl
  obtain ⟨-, h2, -, -, -, -, -, -, -, hX, hb, -, -⟩ := C.2.2.2.2.2.2.2.2.2.1
  exact va_slen C.1 C.2.1 hX (Nat.lt_of_lt_of_le hb h2) (Nat.not_le.mpr hb) hS hd (kk p e s m args below meth c n0 C H locs ls hR hz hS hl)
end VF
