section TC
variable {p : Program} {l : Launch} {e : Env} {R : Room} {s : State} {m : MethodId} {args : Array Value} {below : List Frame} {meth : Method} {c : Code} {H : Heap} {locs : List Loc} {cells slots : Nat} {Q : State → Prop}
variable {pc : Nat} {ls : Array Slot} {st0 rest : List Value}
theorem vx_catch {own name : String} {E : String} {ce : Cell} {q : Addr} (hown : s.vm.findClass own = some m.cls) (pre : List ExceptionTableEntry) (x : ExceptionTableEntry) (suf : List ExceptionTableEntry) (hsplit : c.exceptionTable.toList = pre ++ x :: suf)
    (hpass : ∀ z ∈ pre, covers z pc = false ∨ (z.catchType ≠ 0 ∧ ∃ nm : String, (Cond.classLink own z.catchType nm).before args s = true ∧ va_Nc E nm s)) (hx : covers x pc = true) (h0 : x.catchType ≠ 0)
    (hlink : (Cond.classLink own x.catchType name).before args s = true) (hcast : (Cond.castable E name).before args s = true) (hcell : H[q]? = some ce) (hv : ce.vm = .none) (hcl : s.vm.findClass E = some ce.cls)
    (kk : W p l e R s m args below meth c H locs cells slots Q (F0 m x.handlerPc ls [.ref q])) : vx_W p l e R s m args below meth c H locs cells slots Q (F0 m pc ls rest) q := by
  intro T hT X
  have hpl : e.platform.magicAccessors = ({} : Platform).magicAccessors := by rw [X.admits.platform]
  obtain ⟨c3, c4, hc3, hc4, hasg⟩ := Cond.castable_spec hcast
  cases Option.some.inj (hc3.symm.trans hcl)
  obtain ⟨c5, hc5, hcl5⟩ := Cond.classLink_spec hown hlink e.platform hpl
  cases Option.some.inj (hc4.symm.trans hc5)
  obtain ⟨vm', X', st⟩ := X.thenCaughtThrough q (g := F0 m pc ls rest) rfl (Steps.refl _) (by rw [hT]; exact hcell) (by rw [hv]; rfl) (by obtain ⟨k9, h9, -⟩ := Vm.findClass_spec hcl; exact ⟨k9, h9⟩) pre x suf hsplit
    (fun z hz => by
      rcases hpass z hz with h | ⟨hz0, nm, hl1, hn1⟩
      · exact Or.inl h
      · obtain ⟨c6, hc6, hcl6⟩ := Cond.classLink_spec hown hl1 e.platform hpl
        obtain ⟨a8, b8, h1, h2, h3⟩ := hn1
        cases Option.some.inj (h1.symm.trans hcl)
        cases Option.some.inj (h2.symm.trans hc6)
        exact Or.inr ⟨hz0, _, hcl6, h3⟩) hx (Or.inr ⟨h0, c4, hcl5, hasg⟩)
  obtain ⟨t, a1, b1⟩ := kk (T.setVm vm') hT X'
  exact ⟨t, st.trans a1, b1⟩
end TC
section TD
variable {G : Gx} {md : MD} {d K S k sl pc : Nat} {lv : List (Nat × Value)} {rest : List Value} {n : Nat} {I : FI} {R : FR} {J : FJ} {Q : Po}
/-- the callee's end where it may be caught: hp says at which pc -/
def Kc (G : Gx) (md : MD) (d K S k sl pc : Nat) (lv : List (Nat × Value)) (rest : List Value) (hp : Nat → Option Nat) (Q : Po) : Po := fun o n I R J => match o with
  | .inl v => V G md d K S k sl pc lv (v.toList ++ rest) n I R J Q
  | .inr x => match hp x with
    | some h => n = 103 ∧ ∀ q, V G md d K S k sl h lv [.ref q] n I R J Q
    | none => False
/-- the table catches so -/
def Hnd (md : MD) (pc : Nat) (hp : Nat → Option Nat) : Prop := ∀ x h, hp x = some h → ∃ (pre : List ExceptionTableEntry) (r : ExceptionTableEntry) (suf : List ExceptionTableEntry) (nm : String), tableOf (mH md) = pre ++ r :: suf ∧ (∀ z ∈ pre, z.catchType ≠ 0 ∧ Cond.classLink (mY md).cls z.catchType "java/util/NoSuchElementException" ∈ TSg ∧ exN x = "java/lang/IllegalArgumentException") ∧ covers r pc = true ∧ r.catchType ≠ 0 ∧ r.handlerPc = h ∧ Cond.classLink (mY md).cls r.catchType nm ∈ TSg ∧ Cond.castable (exN x) nm ∈ XW
theorem V_runX {hp : Nat → Option Nat} {p : Program} {e : Env} {s : State} {m : MethodId} {args : Array Value} {below : List Frame} {meth : Method} {c : Code} {n0 : Nat} {H : Heap} {locs : List Loc} {ls : Array Slot} {st a0 : List Value} {K' S' : Nat} (C : Cx G md p s m args meth c n0) (hH : Hnd md pc hp) (hR : Rp G n I R J H) (hz : n < NT → s.heap.size + k ≤ g_b G + n) (hS : va_S (gA G) s.heap H locs) (hl : lv_has ls (mL md) lv) (hk : k + K' ≤ K) (hs : sl + S' ≤ S)
    (hr : (n < NT → H.size = g_b G + n) → vx_Run p (g_l G) e (rmD (d + 1) K S) s m args below meth c H locs k sl K' S' (F0 m pc ls st) rest (qc G (Kc G md (d + 1) K S (k + K') (sl + S') (pc + 3) lv rest hp Q) n K' a0.toArray) (xc G (Kc G md (d + 1) K S (k + K') (sl + S') (pc + 3) lv rest hp Q)) (gA G)) :
    W p (g_l G) e (rmD (d + 1) K S) s m args below meth c H locs k sl (vx_MQ below (qc G Q n0 K) (xc G Q) args s K S (gA G)) (F0 m pc ls st) := by
  intro T hT X
  have hsz : n < NT → H.size = g_b G + n := fun q => by
    have h1 : T.heap.size ≤ s.heap.size + k := X.same.2.2.1
    have h2 := hz q
    have h3 := hR.2
    rw [hT] at h1
    omega
  rcases hr hsz T hT X with ⟨v, st₀, t, T', L, h0, X', hL, e1, e2, ⟨v', n', I', R', J', hv, hq, hR', hF, hz'⟩, go⟩ | ⟨q, st₀, t, T', L, E, ce, h0, X', hL, e1, e2, ⟨kd, n', I', R', J', hE', hq, hR', hF⟩, hce, hcv, hcl, go⟩
  · cases hv
    obtain ⟨k1, k2, k3⟩ := vx_keep h0 e1 hS (fun q _ h => h) (fun q h => h) hL hF
    have hq' : V G md (d + 1) K S (k + K') (sl + S') (pc + 3) lv (v.toList ++ rest) n' I' R' J' Q := hq
    obtain ⟨t2, a1, b1⟩ := hq' p e s m args below meth c n0 C T'.heap (locs ++ L) ls (by rw [e1]; exact hR') (fun q => by have h1 := hz' q; have h2 := hz (by omega); omega) k3 hl T' rfl X'
    exact ⟨t2, go t2 a1, b1⟩
  · obtain ⟨k1, k2, k3⟩ := vx_keep h0 e1 hS (fun q _ h => h) (fun q h => h) hL hF
    have hE9 : Ev G s := C.2.2.2.2.2.2.2.2.2.1
    have tg : ∀ w ∈ TSg, w.before args s = true := fun w h => C.2.2.2.2.2.1 w (List.mem_cons_of_mem _ h)
    have hq1 : (match hp kd with | some h => n' = 103 ∧ ∀ q, V G md (d + 1) K S (k + K') (sl + S') h lv [.ref q] n' I' R' J' Q | none => False) := hq
    cases hh : hp kd with
    | none => rw [hh] at hq1; exact hq1.elim
    | some h =>
      rw [hh] at hq1
      obtain ⟨rfl, hq2⟩ := hq1
      obtain ⟨pre, r, suf, nm, g1, g2, g3, g4, g5, g6, g7⟩ := hH kd h hh
      subst hE'
      subst g5
      have hkk := hq2 q p e s m args below meth c n0 C T'.heap (locs ++ L) ls (by rw [e1]; exact hR') (fun q => absurd q (by decide)) k3 hl
      obtain ⟨t2, a1, b1⟩ := vx_catch (p := p) (l := g_l G) (e := e) (R := rmD (d + 1) K S) (below := below) (args := args) (ls := ls) (rest := rest) (pc := pc) (E := exN kd) (ce := ce) (q := q) (own := (mY md).cls) (name := nm) C.2.2.2.2.1 pre r suf (by rw [C.2.2.2.2.2.2.2.1]; exact g1)
        (fun z hz => Or.inr ⟨(g2 z hz).1, _, tg _ (g2 z hz).2.1, by rw [(g2 z hz).2.2]; exact hE9.2.2.2.2.2.2.2.2.2.2.2.2.1⟩) g3 g4 (tg _ g6) (va_Nw.use (XW_tab g7) (hE9.2.2.2.2.2.2.2.2.2.2.2.1 _ g7)) (by rw [e1]; exact hce) hcv hcl hkk T' rfl X'
      exact ⟨t2, go.trans a1, b1⟩

theorem V_callVc {hx : Nat → Option Nat} (pc' : Nat) {md' : MD} {ix K' S' : Nat} {st : List Value} (i ci nA : Nat) (As : List Value) (hM : MdOk md' nA) (hL : LkV (mY md).cls ix (mY md')) (h12 : ci < 12) (hcl : clC ci = (mY md').cls) (hy : lay i = .inl ci) (hn : i < n) (hA : As.length = nA) (hsl : (lg_sl (rf G i :: As)).length ≤ mL md') (hk : k + K' ≤ K) (hs : sl + S' ≤ S) (hrest : (rest.map fun v => v.category).sum ≤ 8) (hH : Hnd md pc hx) (hst : st = As.reverse ++ rf G i :: rest)
    (hd : decode (mB md) pc = .ok (.invokevirtual ix, 3)) (hp : pc + 3 = pc') (hc : Cc G md' d K' S' (rf G i :: As) n I R J (Kc G md (d + 1) K S (k + K') (sl + S') pc' lv rest hx Q)) : V G md (d + 1) K S k sl pc lv st n I R J Q := by
  subst hp
  intro p e s m args below meth c n0 C H locs ls hR hz hS hl
  obtain ⟨m1, m2, m3, m4, ⟨m5, m6, m7⟩, m8⟩ := hM
  obtain ⟨l1, l2, l3⟩ := hL
  have hts : ∀ w ∈ mWs md, w.before args s = true := C.2.2.2.2.2.1
  have tg : ∀ w ∈ TSg, w.before args s = true := fun w h => hts w (List.mem_cons_of_mem _ h)
  have hE : Ev G s := C.2.2.2.2.2.2.2.2.2.1
  have hw : mWs md' = Cond.code (mY md') (mB md') (mL md') (mR md') :: TSg := by unfold mWs mW; rw [if_pos m1]
  have he : (wW G n I R J)[i]? = some (g_b G + i, .inr (ci, (List.range (clN ci)).map (wF G I R i ci))) := by rw [wW_get hn, wC_o hy]
  have hrc := va_recv hE.2.2.1 hR.1 (cl_ok ci h12).1 he
  rw [hcl] at hrc
  refine V_runX (hp := hx) (rest := rest) (a0 := rf G i :: As) C hH hR hz hS hl hk hs (fun hsz => ?_)
  exact vx_runV (nL := mL md) (C := (mY md').cls) (b := g_b G + i) (As := As) ⟨C.1, C.2.1, C.2.2.1, C.2.2.2.2.1, hts⟩ (hc.met m4 hsl) ⟨callB_of (ws' := TSg) nA hts (goodIn_ws m2) hw rfl rfl (tg _ m3) (tg _ l1) ⟨m5, m6, m7⟩ ⟨by show d + 10 + 1 ≤ d + 1 + 10; omega, by show 8 + (mL md' + 11) + (64 * d + 256) ≤ 64 * (d + 1) + 256; omega⟩, tg _ l2, tg _ l3⟩
    ⟨pc0_blind, hrc, fun U hU hW => ⟨rfl, hE.go hS hU hW, by rw [hU]; exact hR, fun q => by rw [hU]; exact hsz q⟩⟩ rfl hA hl.1 hst (by show 2 * 0 + _ ≤ 8; omega) hd ⟨hk, hs⟩

def MdOkW (md : MD) (nA : Nat) : Prop := mH md ≠ [] ∧ mW md ∈ TSg ∧ Cond.initialized (mY md).cls ∈ TSg ∧ plainName (mY md).cls = true ∧ ((mY md).cls ≠ "java/lang/invoke/MethodHandle" ∧ (mY md).cls ≠ "java/lang/invoke/VarHandle" ∧ (parseMethodDescriptor (mY md).desc).map (fun d => d.parameters.length) = some nA) ∧ mL md ≤ 40
theorem V_callSw (pc' : Nat) {md' : MD} {ix K' S' : Nat} {st : List Value} (nA : Nat) (As : List Value) (hM : MdOkW md' nA) (hL : LkS (mY md).cls ix (mY md')) (hA : As.length = nA) (hsl : (lg_sl As).length ≤ mL md') (hk : k + K' ≤ K) (hs : sl + S' ≤ S) (hrest : (rest.map fun v => v.category).sum ≤ 8) (hH : mH md = []) (hst : st = As.reverse ++ rest)
    (hd : decode (mB md) pc = .ok (.invokestatic ix, 3)) (hp : pc + 3 = pc') (hc : Cc G md' d K' S' As n I R J (Kq G md (d + 1) K S (k + K') (sl + S') pc' lv rest Q)) : V G md (d + 1) K S k sl pc lv st n I R J Q := by
  subst hp
  intro p e s m args below meth c n0 C H locs ls hR hz hS hl
  obtain ⟨m1, m2, m3, m4, ⟨m5, m6, m7⟩, m8⟩ := hM
  obtain ⟨l1, l2⟩ := hL
  have hts : ∀ w ∈ mWs md, w.before args s = true := C.2.2.2.2.2.1
  have tg : ∀ w ∈ TSg, w.before args s = true := fun w h => hts w (List.mem_cons_of_mem _ h)
  have hE : Ev G s := C.2.2.2.2.2.2.2.2.2.1
  have hw : mWs md' = Cond.codeWith (mY md') (mB md') (mL md') (mR md') (mH md') :: TSg := by unfold mWs mW; rw [if_neg m1]
  refine V_run (rest := rest) (a0 := As) C hH hR hz hS hl hk hs (fun hsz => ?_)
  have hG : GoodIn (mWs md) (va_wsS (mY md).cls ix (mY md') (mWs md')) := by
    intro w hw9
    have g1 : w ∈ TSg := by
      simp only [va_wsS, List.mem_append, List.mem_cons, List.not_mem_nil, or_false] at hw9
      rcases hw9 with h | h
      · rcases h with rfl | rfl | rfl
        all_goals assumption
      · rcases List.mem_cons.mp h with rfl | h
        · exact m2
        · exact h
    exact ⟨List.mem_cons_of_mem _ g1, good_of_word (TSg_good g1)⟩
  exact vx_runSX (nL := mL md) (As := As) ⟨C.1, C.2.1, C.2.2.1, C.2.2.2.2.1, hts⟩ (hc.met m4 hsl) (vx_cwSW (ws' := TSg) nA hts hG hw rfl rfl ⟨m5, m6, m7⟩ ⟨by show d + 10 + 1 ≤ d + 1 + 10; omega, by show 8 + (mL md' + 11) + (64 * d + 256) ≤ 64 * (d + 1) + 256; omega⟩)
    ⟨pc0_blind, fun U hU hW => ⟨rfl, hE.go hS hU hW, by rw [hU]; exact hR, fun q => by rw [hU]; exact hsz q⟩⟩ rfl hA hl.1 hst (by show 2 * 0 + _ ≤ 8; omega) hd ⟨hk, hs⟩
end TD
