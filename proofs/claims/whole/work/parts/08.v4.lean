/-! calls -/
theorem Met.of_vx {l : Launch} {y : MethodName} {ws : List Cond} {rm : Room} {Pc : Array Value → State → Prop} {Qc : Array Value → State → Outcome → State → Prop} {XC : String → State → State → Prop} {mc ms : Nat} {free : Addr → Prop} (hM : vx_Met l y ws rm Pc Qc XC mc ms free) (hx : ∀ E st t, ¬ XC E st t) : Met l y ws rm Pc Qc mc ms free := by
  intro p e h1 h2 h3 s m args below h4 h5 h6 h7
  obtain ⟨j, o, a1, a2, a3, a4⟩ := hM p e h1 h2 h3 s m args below h4 h5 h6 h7
  refine ⟨j, o, a1, a2, a3, ?_⟩
  rcases a4 with h | ⟨q, -, E, ce, L, h, -⟩
  · exact h
  · exact absurd h (hx _ _ _)
/-- what a method's call rests on, whoever calls -/
def MdOk (md : MD) (nA : Nat) : Prop := mH md = [] ∧ mW md ∈ TSg ∧ Cond.initialized (mY md).cls ∈ TSg ∧ plainName (mY md).cls = true ∧ ((mY md).cls ≠ "java/lang/invoke/MethodHandle" ∧ (mY md).cls ≠ "java/lang/invoke/VarHandle" ∧ (parseMethodDescriptor (mY md).desc).map (fun d => d.parameters.length) = some nA) ∧ mL md ≤ 40
def LkV (own : String) (ix : Nat) (y : MethodName) : Prop := Cond.methodLink own ix y ∈ TSg ∧ Cond.instanceMethod y ∈ TSg ∧ Cond.selects y.cls y y ∈ TSg
def LkS (own : String) (ix : Nat) (y : MethodName) : Prop := Cond.methodLink own ix y ∈ TSg ∧ Cond.static y ∈ TSg
def LkI (own : String) (ix : Nat) (y : MethodName) : Prop := y.name = "<init>" ∧ Cond.instanceMethod y ∈ TSg ∧ (Cond.methodLink own ix y ∈ TSg ∨ ∃ host, Cond.methodLinkNest own ix y host ∈ NW)
theorem goodIn_ws {md md' : MD} (h : mW md' ∈ TSg) : GoodIn (mWs md) (mWs md') := by
  intro w hw
  have h1 : w ∈ TSg := by
    rcases List.mem_cons.mp hw with rfl | h2
    · exact h
    · exact h2
  exact ⟨List.mem_cons_of_mem _ h1, good_of_word (TSg_good h1)⟩
section VC
variable {G : Gx} {md : MD} {d K S k sl pc : Nat} {lv : List (Nat × Value)} {rest : List Value} {n : Nat} {I : FI} {R : FR} {J : FJ} {Q : Po}
/-- the callee's end, as its caller goes on -/
def Kq (G : Gx) (md : MD) (d K S k sl pc : Nat) (lv : List (Nat × Value)) (rest : List Value) (Q : Po) : Po := fun o n I R J => match o with
  | .inl v => V G md d K S k sl pc lv (v.toList ++ rest) n I R J Q
  | .inr x => Q (.inr x) n I R J
theorem V_run {p : Program} {e : Env} {s : State} {m : MethodId} {args : Array Value} {below : List Frame} {meth : Method} {c : Code} {n0 : Nat} {H : Heap} {locs : List Loc} {ls : Array Slot} {st a0 : List Value} {K' S' : Nat} (C : Cx G md p s m args meth c n0) (hH : mH md = []) (hR : Rp G n I R J H) (hz : n < NT → s.heap.size + k ≤ g_b G + n) (hS : va_S (gA G) s.heap H locs) (hl : lv_has ls (mL md) lv) (hk : k + K' ≤ K) (hs : sl + S' ≤ S)
    (hr : (n < NT → H.size = g_b G + n) → vx_Run p (g_l G) e (rmD (d + 1) K S) s m args below meth c H locs k sl K' S' (F0 m pc ls st) rest (qc G (Kq G md (d + 1) K S (k + K') (sl + S') (pc + 3) lv rest Q) n K' a0.toArray) (xc G (Kq G md (d + 1) K S (k + K') (sl + S') (pc + 3) lv rest Q)) (gA G)) :
    W p (g_l G) e (rmD (d + 1) K S) s m args below meth c H locs k sl (vx_MQ below (qc G Q n0 K) (xc G Q) args s K S (gA G)) (F0 m pc ls st) := by
  intro T hT X
  have hsz : n < NT → H.size = g_b G + n := fun q => by
    have h1 : T.heap.size ≤ s.heap.size + k := X.same.2.2.1
    have h2 := hz q
    have h3 := hR.2
    rw [hT] at h1
    omega
  rcases hr hsz T hT X with ⟨v, st₀, t, T', L, h0, X', hL, e1, e2, ⟨v', n', I', R', J', hv, hq, hR', hF, hz'⟩, go⟩ | ⟨q, st₀, t, T', L, E, ce, h0, X', hL, e1, e2, ⟨kd, n', I', R', J', hE', hq, hR', hF⟩, hce, hcv, hcl, go⟩
  · cases hv
    obtain ⟨k1, k2, k3⟩ := vx_keep h0 e1 hS (fun q _ h => h) (fun q h => h) hL hF
    have hq' : V G md (d + 1) K S (k + K') (sl + S') (pc + 3) lv (v.toList ++ rest) n' I' R' J' Q := hq
    obtain ⟨t2, a1, b1⟩ := hq' p e s m args below meth c n0 C T'.heap (locs ++ L) ls (by rw [e1]; exact hR') (fun q => by have h1 := hz' q; have h2 := hz (by omega); omega) k3 hl T' rfl X'
    exact ⟨t2, go t2 a1, b1⟩
  · obtain ⟨k1, k2, k3⟩ := vx_keep h0 e1 hS (fun q _ h => h) (fun q h => h) hL hF
    have hq' : Q (.inr kd) n' I' R' J' := hq
    have hR2 : Rp G n' I' R' J' T'.heap := by rw [e1]; exact hR'
    have hout : ∀ x ∈ c.exceptionTable.toList, covers x pc = false := by
      rw [C.2.2.2.2.2.2.2.1, hH]
      intro x hx
      cases hx
    obtain ⟨t2, a1, b1⟩ := vx_out (p := p) (l := g_l G) (e := e) (R := rmD (d + 1) K S) (below := below) (args := args) (ls := ls) (rest := rest) (Qc := qc G Q n0 K) (XC := xc G Q) (free := gA G) (pc := pc) (E := E) (ce := ce) (q := q) (mc := K) (ms := S) hout C.2.2.2.2.2.2.1 (by rw [e1]; exact hce) hcv hcl (fun t9 ht9 _ => ⟨kd, n', I', R', J', hE', hq', by rw [ht9]; exact hR2, k3.F ht9⟩) k3.2.2 hk hs T' rfl X'
    exact ⟨t2, go.trans a1, b1⟩
theorem V_callV (pc' : Nat) {md' : MD} {ix K' S' : Nat} {st : List Value} (i ci nA : Nat) (As : List Value) (hM : MdOk md' nA) (hL : LkV (mY md).cls ix (mY md')) (h12 : ci < 12) (hcl : clC ci = (mY md').cls) (hy : lay i = .inl ci) (hn : i < n) (hA : As.length = nA) (hsl : (lg_sl (rf G i :: As)).length ≤ mL md') (hk : k + K' ≤ K) (hs : sl + S' ≤ S) (hrest : (rest.map fun v => v.category).sum ≤ 8) (hH : mH md = []) (hst : st = As.reverse ++ rf G i :: rest)
    (hd : decode (mB md) pc = .ok (.invokevirtual ix, 3)) (hp : pc + 3 = pc') (hc : Cc G md' d K' S' (rf G i :: As) n I R J (Kq G md (d + 1) K S (k + K') (sl + S') pc' lv rest Q)) : V G md (d + 1) K S k sl pc lv st n I R J Q := by
  subst hp
  intro p e s m args below meth c n0 C H locs ls hR hz hS hl
  obtain ⟨m1, m2, m3, m4, ⟨m5, m6, m7⟩, m8⟩ := hM
  obtain ⟨l1, l2, l3⟩ := hL
  have hts : ∀ w ∈ mWs md, w.before args s = true := C.2.2.2.2.2.1
  have tg : ∀ w ∈ TSg, w.before args s = true := fun w h => hts w (List.mem_cons_of_mem _ h)
  have hE : Ev G s := C.2.2.2.2.2.2.2.2.2.1
  have hw : mWs md' = Cond.code (mY md') (mB md') (mL md') (mR md') :: TSg := by unfold mWs mW; rw [if_pos m1]
  have he : (wW G n I R J)[i]? = some (g_b G + i, .inr (ci, (List.range (clN ci)).map (wF G I R i ci))) := by rw [wW_get hn, wC_o hy]
  have hrc := va_recv hE.2.2.1 hR.1 (cl_ok ci h12).1 he
  rw [hcl] at hrc
  refine V_run (rest := rest) (a0 := rf G i :: As) C hH hR hz hS hl hk hs (fun hsz => ?_)
  exact vx_runV (nL := mL md) (C := (mY md').cls) (b := g_b G + i) (As := As) ⟨C.1, C.2.1, C.2.2.1, C.2.2.2.2.1, hts⟩ (hc.met m4 hsl) ⟨callB_of (ws' := TSg) nA hts (goodIn_ws m2) hw rfl rfl (tg _ m3) (tg _ l1) ⟨m5, m6, m7⟩ ⟨by show d + 10 + 1 ≤ d + 1 + 10; omega, by show 8 + (mL md' + 11) + (64 * d + 256) ≤ 64 * (d + 1) + 256; omega⟩, tg _ l2, tg _ l3⟩
    ⟨pc0_blind, hrc, fun U hU hW => ⟨rfl, hE.go hS hU hW, by rw [hU]; exact hR, fun q => by rw [hU]; exact hsz q⟩⟩ rfl hA hl.1 hst (by show 2 * 0 + _ ≤ 8; omega) hd ⟨hk, hs⟩
theorem V_callS (pc' : Nat) {md' : MD} {ix K' S' : Nat} {st : List Value} (nA : Nat) (As : List Value) (hM : MdOk md' nA) (hL : LkS (mY md).cls ix (mY md')) (hA : As.length = nA) (hsl : (lg_sl As).length ≤ mL md') (hk : k + K' ≤ K) (hs : sl + S' ≤ S) (hrest : (rest.map fun v => v.category).sum ≤ 8) (hH : mH md = []) (hst : st = As.reverse ++ rest)
    (hd : decode (mB md) pc = .ok (.invokestatic ix, 3)) (hp : pc + 3 = pc') (hc : Cc G md' d K' S' As n I R J (Kq G md (d + 1) K S (k + K') (sl + S') pc' lv rest Q)) : V G md (d + 1) K S k sl pc lv st n I R J Q := by
  subst hp
  intro p e s m args below meth c n0 C H locs ls hR hz hS hl
  obtain ⟨m1, m2, m3, m4, ⟨m5, m6, m7⟩, m8⟩ := hM
  obtain ⟨l1, l2⟩ := hL
  have hts : ∀ w ∈ mWs md, w.before args s = true := C.2.2.2.2.2.1
  have tg : ∀ w ∈ TSg, w.before args s = true := fun w h => hts w (List.mem_cons_of_mem _ h)
  have hE : Ev G s := C.2.2.2.2.2.2.2.2.2.1
  have hw : mWs md' = Cond.code (mY md') (mB md') (mL md') (mR md') :: TSg := by unfold mWs mW; rw [if_pos m1]
  refine V_run (rest := rest) (a0 := As) C hH hR hz hS hl hk hs (fun hsz => ?_)
  exact vx_runS (nL := mL md) (As := As) ⟨C.1, C.2.1, C.2.2.1, C.2.2.2.2.1, hts⟩ (hc.met m4 hsl) ⟨callB_of (ws' := TSg) nA hts (goodIn_ws m2) hw rfl rfl (tg _ m3) (tg _ l1) ⟨m5, m6, m7⟩ ⟨by show d + 10 + 1 ≤ d + 1 + 10; omega, by show 8 + (mL md' + 11) + (64 * d + 256) ≤ 64 * (d + 1) + 256; omega⟩, tg _ l2⟩
    ⟨pc0_blind, fun U hU hW => ⟨rfl, hE.go hS hU hW, by rw [hU]; exact hR, fun q => by rw [hU]; exact hsz q⟩⟩ rfl hA hl.1 hst (by show 2 * 0 + _ ≤ 8; omega) hd ⟨hk, hs⟩
theorem V_callI (pc' : Nat) {md' : MD} {ix K' S' : Nat} {st : List Value} (i nA : Nat) (As : List Value) (hM : MdOk md' nA) (hr : mR md' = none) (hL : LkI (mY md).cls ix (mY md')) (hA : As.length = nA) (hsl : (lg_sl (rf G i :: As)).length ≤ mL md') (hk : k + K' ≤ K) (hs : sl + S' ≤ S) (hrest : (rest.map fun v => v.category).sum ≤ 8) (hH : mH md = []) (hst : st = As.reverse ++ rf G i :: rest)
    (hd : decode (mB md) pc = .ok (.invokespecial ix, 3)) (hp : pc + 3 = pc') (Q' : Po) (hx : ∀ x n I R J, ¬ Q' (.inr x) n I R J) (hq : ∀ v n I R J, Q' (.inl v) n I R J → V G md (d + 1) K S (k + K') (sl + S') pc' lv (v.toList ++ rest) n I R J Q) (hc : Cc G md' d K' S' (rf G i :: As) n I R J Q') : V G md (d + 1) K S k sl pc lv st n I R J Q := by
  subst hp
  intro p e s m args below meth c n0 C H locs ls hR hz hS hl
  obtain ⟨m1, m2, m3, m4, ⟨m5, m6, m7⟩, m8⟩ := hM
  obtain ⟨l1, l2, l3⟩ := hL
  have hts : ∀ w ∈ mWs md, w.before args s = true := C.2.2.2.2.2.1
  have tg : ∀ w ∈ TSg, w.before args s = true := fun w h => hts w (List.mem_cons_of_mem _ h)
  have hE : Ev G s := C.2.2.2.2.2.2.2.2.2.1
  have hw : mWs md' = Cond.code (mY md') (mB md') (mL md') none :: TSg := by unfold mWs mW; rw [if_pos m1, hr]
  have hmet := Met.of_vx (hc.met m4 hsl) (fun E st t ⟨kd, n', I', R', J', _, h, _⟩ => hx _ _ _ _ _ h)
  refine V_run (rest := rest) (a0 := rf G i :: As) C hH hR hz hS hl hk hs (fun hsz => ?_)
  have hpre : PreS s H (pc0 G (rf G i :: As) n I R J) (.ref (g_b G + i) :: As) := ⟨pc0_blind, fun U hU hW => ⟨rfl, hE.go hS hU hW, by rw [hU]; exact hR, fun q => by rw [hU]; exact hsz q⟩⟩
  have hrun : va_Run p (g_l G) e (rmD (d + 1) K S) s m args below meth c H locs k sl K' S' (F0 m pc ls st) rest (qc G Q' n K' (Value.ref (g_b G + i) :: As).toArray) (gA G) := by
    rcases l3 with l3 | ⟨host, l3⟩
    · exact va_runI (nL := mL md) (As := As) ⟨C.1, C.2.1, C.2.2.1, C.2.2.2.2.1, hts⟩ hmet ⟨callB_of (ws' := TSg) nA hts (goodIn_ws m2) hw rfl rfl (tg _ m3) (tg _ l3) ⟨m5, m6, m7⟩ ⟨by show d + 10 + 1 ≤ d + 1 + 10; omega, by show 8 + (mL md' + 11) + (64 * d + 256) ≤ 64 * (d + 1) + 256; omega⟩, l1, tg _ l2⟩ hpre rfl hA hl.1 hst (by show 2 * 0 + _ ≤ 8; omega) hd ⟨hk, hs⟩
    · exact va_runIN (nL := mL md) (As := As) ⟨C.1, C.2.1, C.2.2.1, C.2.2.2.2.1, hts⟩ hmet ⟨va_cnB (ws' := TSg) nA hts (goodIn_ws m2) hw rfl rfl (hE.2.2.2.1 _ l3) (tg _ m3) ⟨m5, m6, m7⟩ ⟨by show d + 10 + 1 ≤ d + 1 + 10; omega, by show 8 + (mL md' + 11) + (64 * d + 256) ≤ 64 * (d + 1) + 256; omega⟩, l1, tg _ l2⟩ hpre rfl hA hl.1 hst (by show 2 * 0 + _ ≤ 8; omega) hd ⟨hk, hs⟩
  intro T hT X
  obtain ⟨v, st₀, t, T', L, h0, X', hL', e1, e2, ⟨v', n', I', R', J', hv, hq', hR', hF, hz'⟩, go⟩ := hrun T hT X
  cases hv
  exact Or.inl ⟨v, st₀, t, T', L, h0, X', hL', e1, e2, ⟨v, n', I', R', J', rfl, hq _ _ _ _ _ hq', hR', hF, hz'⟩, go⟩
theorem V_objInit (pc' : Nat) {ix : Nat} (i : Nat) (hL : Cond.methodLink (mY md).cls ix Lib.objectInit ∈ TSg) (hI : Cond.instanceMethod Lib.objectInit ∈ TSg) (hC : Cond.code Lib.objectInit ⟨#[0xb1]⟩ 1 none ∈ TSg) (hrest : (rest.map fun v => v.category).sum ≤ 8) (hd : decode (mB md) pc = .ok (.invokespecial ix, 3)) (hp : pc + 3 = pc') (kk : V G md d K S k sl pc' lv rest n I R J Q) : V G md d K S k sl pc lv (rf G i :: rest) n I R J Q := by
  subst hp
  intro p e s m args below meth c n0 C H locs ls hR hz hS hl
  have tg : ∀ w ∈ TSg, w.before args s = true := fun w h => C.2.2.2.2.2.1 w (List.mem_cons_of_mem _ h)
  exact W.objInit C.1 C.2.1 C.2.2.2.2.1 (tg _ hL) (tg _ hI) (tg _ hC) rfl (hl.1.trans C.2.2.1.symm) rfl hd (by show 1 ≤ d + 10; omega) (by show 2 * 0 + _ + 12 ≤ 64 * d + 256; omega) (kk p e s m args below meth c n0 C H locs ls hR hz hS hl)
theorem wNew {n q : Nat} {e : va_E} {H1 : Heap} (hP : va_P (g_D G) vwCl (wW G n I R J ++ [(q, e)]) H1) (hD : va_D (gA G) (wW G n I R J ++ [(q, e)])) (hz : H1.size ≤ g_b G + n + 1) : q = g_b G + n := by
  have hl : (wW G n I R J).length = n := by simp [wW]
  have hq : (wW G n I R J ++ [(q, e)])[n]? = some (q, e) := by rw [List.getElem?_append_right (by omega), hl]; simp
  have h1 : q < H1.size := (hP n _ hq).lt
  have h2 : g_b G ≤ q := hD.2 n _ hq
  by_cases h3 : q = g_b G + n
  · exact h3
  · exfalso
    have h4 : q - g_b G < n := by omega
    have h5 : (wW G n I R J ++ [(q, e)])[q - g_b G]? = some (g_b G + (q - g_b G), wC G I R J (q - g_b G)) := by rw [List.getElem?_append_left (by omega), wW_get h4]
    have h6 := hD.1 _ _ _ _ hq h5 (show q = g_b G + (q - g_b G) by omega)
    omega
theorem dflt_wF (ci j : Nat) (h12 : ci < 12) (hj : j < clN ci) (I : FI) (R : FR) (i : Nat) (h1 : I i j = 0) (h2 : R i j = none) : defaultValue (clTy ci j) = wF G I R i ci j := by
  obtain ⟨a, b⟩ := fI_ok ci h12 j hj
  unfold wF
  cases h : fI ci j
  · rw [if_neg Bool.false_ne_true, h2]
    have := b h
    cases ht : clTy ci j <;> rw [ht] at this <;> first | rfl | (simp [isRT] at this)
  · rw [if_pos rfl, h1, a h]
    rfl
theorem V_new (pc' : Nat) {ix : Nat} (ci : Nat) (hL : Cond.classLink (mY md).cls ix (clC ci) ∈ TSg) (hI : Cond.instantiable (clC ci) (clN ci) ∈ TSg) (hC : Cond.initialized (clC ci) ∈ TSg) (h12 : ci < 12) (hy : lay n = .inl ci) (hn : n < NT) (hk : k + 1 ≤ K) (hs : sl + clN ci ≤ S) (hd : decode (mB md) pc = .ok (.new ix, 3)) (hp : pc + 3 = pc')
    (kk : V G md d K S (k + 1) (sl + clN ci) pc' lv (rf G n :: rest) (n + 1) (upA I n (fun _ => 0)) (upQ R n (fun _ => none)) J Q) : V G md d K S k sl pc lv rest n I R J Q := by
  subst hp
  intro p e s m args below meth c n0 C H locs ls hR hz hS hl
  obtain ⟨c1, c2, c3, c4⟩ := cl_ok ci h12
  have hts : ∀ w ∈ mWs md, w.before args s = true := C.2.2.2.2.2.1
  have tg : ∀ w ∈ TSg, w.before args s = true := fun w h => hts w (List.mem_cons_of_mem _ h)
  have hE : Ev G s := C.2.2.2.2.2.2.2.2.2.1
  refine va_new (fs := (List.range (clN ci)).map (wF G (upA I n (fun _ => 0)) (upQ R n (fun _ => none)) n ci)) C.1 C.2.1 hts (fun w h => List.mem_cons_of_mem _ (c2 w h)) (clTy ci) c3 C.2.2.2.2.1 (tg _ hL) (tg _ hI) (tg _ hC) hE.2.2.1 hR.1 wD hS (fun q h => Nat.le_trans hE.2.1 h) c1 (fun j hj => ?_) hk hs hd (fun q H1 hP1 hD1 hS1 => ?_)
  · show _ = ((List.range (clN ci)).map _).getD j Value.null
    rw [List.getD_eq_getElem?_getD, map_get hj]
    exact dflt_wF ci j h12 hj _ _ n (by simp [upA]) (by simp [upQ])
  · intro T hT X
    have h1 : T.heap.size ≤ s.heap.size + (k + 1) := X.same.2.2.1
    rw [hT] at h1
    have h2 := hz hn
    have hq := wNew hP1 hD1 (by omega)
    subst hq
    rw [wW_push (I' := upA I n (fun _ => 0)) (R' := upQ R n (fun _ => none)) (J' := J) (by rw [wC_o hy]) (fun j hj => wC_at (by simp [upA, Nat.ne_of_lt hj]) (by simp [upQ, Nat.ne_of_lt hj]) rfl)] at hP1
    have h3 := (hP1 n _ (wW_get (show n < n + 1 by omega))).lt
    exact kk p e s m args below meth c n0 C H1 locs ls ⟨hP1, h3⟩ (fun _ => by omega) hS1 hl T hT X
theorem V_newa (pc' : Nat) {x : Int32} {at' : ArrayType} (t len : Nat) (ht : t < 3) (hat : newarray.typeOf at' = tyOf t) (hL : Cond.arrayClass (tyOf t) ∈ TSg) (hx : x.toNatClampNeg = len) (hx0 : ¬ x < 0) (hlen : len ≤ 100000) (hy : lay n = .inr (t, len)) (hn : n < NT) (hk : k + 1 ≤ K) (hs : sl + len ≤ S) (hd : decode (mB md) pc = .ok (.newarray at', 2)) (hp : pc + 2 = pc')
    (kk : V G md d K S (k + 1) (sl + len) pc' lv (rf G n :: rest) (n + 1) (upA I n (fun _ => 0)) R J Q) : V G md d K S k sl pc lv (.int x :: rest) n I R J Q := by
  subst hp
  intro p e s m args below meth c n0 C H locs ls hR hz hS hl
  have tg : ∀ w ∈ TSg, w.before args s = true := fun w h => C.2.2.2.2.2.1 w (List.mem_cons_of_mem _ h)
  have hE : Ev G s := C.2.2.2.2.2.2.2.2.2.1
  refine va_newa (ty := tyOf t) (N' := len) (a0 := (len, .inl (fun _ => 0))) C.1 C.2.1 (by rw [hat]; exact tg _ hL) hat hE.2.2.1 hR.1 wD hS (fun q h => Nat.le_trans hE.2.1 h) (fun cA => ?_) hx0 hx ?_ hk hs hd (fun q cA H1 hK1 hP1 hD1 hS1 => ?_)
  · match t, ht with
    | 0, _ => rfl
    | 1, _ => rfl
    | 2, _ => rfl
  · match t, ht with
    | 0, _ => show len * 4 ≤ _; omega
    | 1, _ => show len * 1 ≤ _; omega
    | 2, _ => show len * 1 ≤ _; omega
  · intro T hT X
    have h1 : T.heap.size ≤ s.heap.size + (k + 1) := X.same.2.2.1
    rw [hT] at h1
    have h2 := hz hn
    have hq := wNew hP1 hD1 (by omega)
    subst hq
    have hcA : cA = g_T G t := by
      have a1 := (hK1.2 4 (cA, tyOf t) rfl).2
      have a2 := (hE.2.2.1.2 t (g_T G t, tyOf t) (by
        match t, ht with
        | 0, _ => rfl
        | 1, _ => rfl
        | 2, _ => rfl)).2
      match t, ht with
      | 0, _ => exact Option.some.inj (a1.symm.trans a2)
      | 1, _ => exact Option.some.inj (a1.symm.trans a2)
      | 2, _ => exact Option.some.inj (a1.symm.trans a2)
    subst hcA
    rw [wW_push (I' := upA I n (fun _ => 0)) (R' := R) (J' := J) (by rw [wC_i hy (by omega)]; simp [upA]) (fun j hj => wC_at (by simp [upA, Nat.ne_of_lt hj]) rfl rfl)] at hP1
    have h3 := (hP1 n _ (wW_get (show n < n + 1 by omega))).lt
    exact kk p e s m args below meth c n0 C H1 locs ls ⟨hP1, h3⟩ (fun _ => by omega) hS1 hl T hT X
theorem V_newl (pc' : Nat) {x : Int32} (len : Nat) (hL : Cond.arrayClass .long ∈ TSg) (hx : x.toNatClampNeg = len) (hx0 : ¬ x < 0) (hlen : len ≤ 100000) (hy : lay n = .inr (3, len)) (hn : n < NT) (hk : k + 1 ≤ K) (hs : sl + len ≤ S) (hd : decode (mB md) pc = .ok (.newarray .long, 2)) (hp : pc + 2 = pc')
    (kk : V G md d K S (k + 1) (sl + len) pc' lv (rf G n :: rest) (n + 1) I R (fun a => if a = n then (fun _ => 0) else J a) Q) : V G md d K S k sl pc lv (.int x :: rest) n I R J Q := by
  subst hp
  intro p e s m args below meth c n0 C H locs ls hR hz hS hl
  have tg : ∀ w ∈ TSg, w.before args s = true := fun w h => C.2.2.2.2.2.1 w (List.mem_cons_of_mem _ h)
  have hE : Ev G s := C.2.2.2.2.2.2.2.2.2.1
  refine va_newa (atype := .long) (ty := .long) (N' := len) (a0 := (len, .inr (.inl (fun _ => 0)))) C.1 C.2.1 (tg _ hL) rfl hE.2.2.1 hR.1 wD hS (fun q h => Nat.le_trans hE.2.1 h) (fun cA => rfl) hx0 hx (by show len * 8 ≤ _; omega) hk hs hd (fun q cA H1 hK1 hP1 hD1 hS1 => ?_)
  intro T hT X
  have h1 : T.heap.size ≤ s.heap.size + (k + 1) := X.same.2.2.1
  rw [hT] at h1
  have h2 := hz hn
  have hq := wNew hP1 hD1 (by omega)
  subst hq
  have hcA : cA = g_T G 3 := by
    have a1 := (hK1.2 4 (cA, .long) rfl).2
    have a2 := (hE.2.2.1.2 3 (g_T G 3, .long) rfl).2
    exact Option.some.inj (a1.symm.trans a2)
  subst hcA
  rw [wW_push (I' := I) (R' := R) (J' := fun a => if a = n then (fun _ => 0) else J a) (by rw [wC_j hy]; simp) (fun j hj => wC_at rfl rfl (by simp [Nat.ne_of_lt hj]))] at hP1
  have h3 := (hP1 n _ (wW_get (show n < n + 1 by omega))).lt
  exact kk p e s m args below meth c n0 C H1 locs ls ⟨hP1, h3⟩ (fun _ => by omega) hS1 hl T hT X
/-- Math, System.arraycopy -/
def LkM (own : String) (ix : Nat) (y : MethodName) (b : ByteArray) (mx : Nat) : Prop := Cond.methodLink own ix y ∈ TSg ∧ Cond.static y ∈ TSg ∧ Cond.initialized "java/lang/Math" ∈ TSg ∧ Cond.code y b mx (some .int) ∈ TSg
theorem V_max (pc' : Nat) {x y : Int32} {ix : Nat} (hL : LkM (mY md).cls ix Lib.Math.max.name Lib.Math.max.code 2) (hk : k ≤ K) (hs : sl ≤ S) (hrest : (rest.map fun v => v.category).sum ≤ 8) (hd : decode (mB md) pc = .ok (.invokestatic ix, 3)) (hp : pc + 3 = pc') (kk : V G md d K S k sl pc' lv (.int (if x < y then y else x) :: rest) n I R J Q) : V G md d K S k sl pc lv (.int y :: .int x :: rest) n I R J Q := by
  subst hp
  intro p e s m args below meth c n0 C H locs ls hR hz hS hl
  have tg : ∀ w ∈ TSg, w.before args s = true := fun w h => C.2.2.2.2.2.1 w (List.mem_cons_of_mem _ h)
  exact va_mmax C.1 C.2.1 (C.2.2.1.trans hl.1.symm) C.2.2.2.2.1 (tg _ hL.1) (tg _ hL.2.1) (tg _ hL.2.2.1) (tg _ hL.2.2.2) (by show 1 ≤ d + 10; omega) (by show _ + 13 ≤ 64 * d + 256; omega) hk hs hd (kk p e s m args below meth c n0 C H locs ls hR hz hS hl)
theorem V_min (pc' : Nat) {x y : Int32} {ix : Nat} (hL : LkM (mY md).cls ix Lib.Math.min.name Lib.Math.min.code 2) (hk : k ≤ K) (hs : sl ≤ S) (hrest : (rest.map fun v => v.category).sum ≤ 8) (hd : decode (mB md) pc = .ok (.invokestatic ix, 3)) (hp : pc + 3 = pc') (kk : V G md d K S k sl pc' lv (.int (if y < x then y else x) :: rest) n I R J Q) : V G md d K S k sl pc lv (.int y :: .int x :: rest) n I R J Q := by
  subst hp
  intro p e s m args below meth c n0 C H locs ls hR hz hS hl
  have tg : ∀ w ∈ TSg, w.before args s = true := fun w h => C.2.2.2.2.2.1 w (List.mem_cons_of_mem _ h)
  exact va_mmin C.1 C.2.1 (C.2.2.1.trans hl.1.symm) C.2.2.2.2.1 (tg _ hL.1) (tg _ hL.2.1) (tg _ hL.2.2.1) (tg _ hL.2.2.2) (by show 1 ≤ d + 10; omega) (by show _ + 13 ≤ 64 * d + 256; omega) hk hs hd (kk p e s m args below meth c n0 C H locs ls hR hz hS hl)
theorem V_abs (pc' : Nat) {x : Int32} {ix : Nat} (hL : LkM (mY md).cls ix Lib.Math.abs.name Lib.Math.abs.code 1) (hk : k ≤ K) (hs : sl ≤ S) (hrest : (rest.map fun v => v.category).sum ≤ 8) (hd : decode (mB md) pc = .ok (.invokestatic ix, 3)) (hp : pc + 3 = pc') (kk : V G md d K S k sl pc' lv (.int (if 0 ≤ x then x else 0 - x) :: rest) n I R J Q) : V G md d K S k sl pc lv (.int x :: rest) n I R J Q := by
  subst hp
  intro p e s m args below meth c n0 C H locs ls hR hz hS hl
  have tg : ∀ w ∈ TSg, w.before args s = true := fun w h => C.2.2.2.2.2.1 w (List.mem_cons_of_mem _ h)
  exact va_mabs C.1 C.2.1 (C.2.2.1.trans hl.1.symm) C.2.2.2.2.1 (tg _ hL.1) (tg _ hL.2.1) (tg _ hL.2.2.1) (tg _ hL.2.2.2) (by show 1 ≤ d + 10; omega) (by show _ + 13 ≤ 64 * d + 256; omega) hk hs hd (kk p e s m args below meth c n0 C H locs ls hR hz hS hl)
def LkC (own : String) (ix : Nat) : Prop := Cond.methodLink own ix arraycopyName ∈ TSg ∧ Cond.native arraycopyName ∈ TSg ∧ Cond.static arraycopyName ∈ TSg ∧ Cond.initialized "java/lang/System" ∈ TSg
theorem V_copy (pc' : Nat) {ix : Nat} {sp dp z : Int32} (i0 i1 n0' n1' : Nat) (hL : LkC (mY md).cls ix) (hy0 : lay i0 = .inr (0, n0')) (hy1 : lay i1 = .inr (0, n1')) (hi0 : i0 < n) (hi1 : i1 < n) (h1 : ¬ sp < 0) (h2 : ¬ dp < 0) (h3 : ¬ z < 0) (h4 : sp.toNatClampNeg + z.toNatClampNeg ≤ n0') (h5 : dp.toNatClampNeg + z.toNatClampNeg ≤ n1') (hrest : (rest.map fun v => v.category).sum ≤ 8) (hd : decode (mB md) pc = .ok (.invokestatic ix, 3)) (hp : pc + 3 = pc')
    (kk : V G md d K S k sl pc' lv rest n (upA I i1 (va_cpy (I i0) (I i1) sp.toNatClampNeg dp.toNatClampNeg z.toNatClampNeg)) R J Q) : V G md d K S k sl pc lv (.int z :: .int dp :: rf G i1 :: .int sp :: rf G i0 :: rest) n I R J Q := by
  subst hp
  intro p e s m args below meth c n0 C H locs ls hR hz hS hl
  have tg : ∀ w ∈ TSg, w.before args s = true := fun w h => C.2.2.2.2.2.1 w (List.mem_cons_of_mem _ h)
  have hK := C.2.2.2.2.2.2.2.2.2.1.2.2.1
  refine va_copyi C.1 C.2.1 (C.2.2.1.trans hl.1.symm) C.2.2.2.2.1 (tg _ hL.1) (tg _ hL.2.1) (tg _ hL.2.2.1) (tg _ hL.2.2.2) hK hR.1 wD hS i0 i1 0 0 (by rw [wW_get hi0, wC_i hy0 (by decide)]) (by rw [wW_get hi1, wC_i hy1 (by decide)]) rfl rfl rfl h1 h2 h3 h4 h5 (fun _ _ => rfl) (by show 1 ≤ d + 10; omega) ?_ hd (fun H1 locs1 hP1 hD1 hS1 => ?_)
  · have : nativeFrameWords "java/lang/System" "arraycopy" 5 + 11 ≤ 200 := by decide +kernel
    show _ + (nativeFrameWords "java/lang/System" "arraycopy" 5 + 11) ≤ 64 * d + 256
    omega
  · exact kk p e s m args below meth c n0 C H1 locs1 ls (Rp.put (A := gA G) (i := i1) hi1 (by rw [wC_i hy1 (by decide)]; simp [upA]) (fun j hj => wC_at (by simp [upA, hj]) rfl rfl) hP1) hz hS1 hl
end VC
