section TY
variable {p : Program} {l : Launch} {e : Env} {R : Room} {s : State} {m : MethodId} {args : Array Value} {below : List Frame} {meth : Method} {c : Code} {H : Heap} {locs : List Loc} {cells slots : Nat} {Q : State → Prop}
variable {mc ms : Nat} {free : Addr → Prop} {a : Array Value} {ls : Array Slot} {st0 rest : List Value}
variable {Qc : Array Value → State → Outcome → State → Prop} {XC : String → State → State → Prop}
def vy_atX (own : String) (ic : Nat) (X : String) (ix : Nat) (rx : ByteArray) (names : List String) : List Cond := (Bundle.ownAtomsX own ic X ix rx names).filter vx_no
set_option maxHeartbeats 4000000 in
theorem vy_throwSX {cc : ByteArray} {pc : Nat} (hexec : p.tables.exec = Jvm.exec) (hb : c.code = cc) (hl : l.stackTraces = false) {own cls text : String} {names : List String} {ik is ic mc ms sa ix : Nat} {rx : ByteArray} {A : Nat → Prop} (x0 : decode rx 0 = .ok (.aload_n 0, 1)) (x1 : decode rx 1 = .ok (.aload_n 1, 1)) (x2 : decode rx 2 = .ok (.invokespecial ix, 3)) (x5 : decode rx 5 = .ok (.return_, 1))
    (hown : s.vm.findClass own = some m.cls) (hcls : Bundle.fit cls = true) (hnames : ∀ n ∈ names, Bundle.fit n = true)
    (hk : (Cond.classLink own ik cls).before args s = true) (hini : (Cond.initialized cls).before args s = true) (hstr : vk_R own is text sa s) (hat : ∀ w ∈ vy_atX own ic cls ix rx names, w.before args s = true)
    (hgood : ∀ w ∈ Cond.classLink own ik cls :: Cond.initialized cls :: vy_atX own ic cls ix rx names, vx_ot w = true)
    (hU : vx_Zq Bundle.tN "UNASSIGNED_STACK" Bundle.steD A s s.heap) (hN : vx_Zq Bundle.tN "SUPPRESSED_SENTINEL" Bundle.listD A s s.heap) (hS : va_S A s.heap H locs) (hsize : ls.size = c.maxLocals)
    (d0 : decode cc pc = .ok (.new ik, 3)) (d3 : decode cc (pc + 3) = .ok (.dup, 1)) (d4 : decode cc (pc + 4) = .ok (.ldc_w is, 3)) (d7 : decode cc (pc + 7) = .ok (.invokespecial ic, 3)) (d10 : decode cc (pc + 10) = .ok (.athrow, 1))
    (hout : ∀ x ∈ c.exceptionTable.toList, covers x (pc + 10) = false)
    (hRframes : names.length + 3 < R.frames) (hRlocals : (rest.map fun v => v.category).sum + (13 * (names.length + 1) + 43) ≤ R.locals) (hRcells : cells + 1 ≤ R.cells) (hRslots : slots + 6 ≤ R.slots) (hlocks : meth.locks = false)
    (hx : ∀ t : State, s.vm.Alike t.vm → H.size ≤ t.heap.size → (∀ q : Nat, q < H.size → t.heap[q]? = H[q]?) → XC cls s t)
    (hf : ∀ z ∈ locs, free z.base) (hc : cells + 1 ≤ mc) (hs : slots + 6 ≤ ms) :
    W p l e R s m args below meth c H locs cells slots (vx_MQ below Qc XC args s mc ms free) (F0 m pc ls rest) := by
  intro T hT X
  have htr : e.platform.stackTraces = false := (show e.platform.stackTraces = l.stackTraces by rw [X.admits.platform]).trans hl
  have Y := vx_rebase X (R' := { frames := R.frames, locals := R.locals, cells := 1, slots := 6 }) (Nat.le_refl _) (Nat.le_refl _) hRcells hRslots
  obtain ⟨s', hA⟩ : ∃ z, z = (T.setVm s.vm).setFrames (.invoking m args :: below) := ⟨_, rfl⟩
  rw [← hA] at Y
  have hvm : s'.vm = s.vm := by rw [hA]; rfl
  have hhp : s'.heap = H := by rw [hA]; exact hT
  have hW0 : s.WarmedH s'.vm := by rw [hvm]; exact State.WarmedH.refl s
  have hat' : ∀ w ∈ vy_atX own ic cls ix rx names, w.before args s' = true := fun w hw => vx_ot_at hW0 hvm.symm (hgood w (List.mem_cons_of_mem _ (List.mem_cons_of_mem _ hw))) (hat w hw)
  have hk' : (Cond.classLink own ik cls).before args s' = true := vx_ot_at hW0 hvm.symm (hgood _ List.mem_cons_self) hk
  have hini' : (Cond.initialized cls).before args s' = true := vx_ot_at hW0 hvm.symm (hgood _ (List.mem_cons_of_mem _ List.mem_cons_self)) hini
  have hU' : vx_Zq Bundle.tN "UNASSIGNED_STACK" Bundle.steD A s' s'.heap := by rw [hhp]; exact vx_Zq.moved hW0.alike (hU.kept hS.2.1)
  have hN' : vx_Zq Bundle.tN "SUPPRESSED_SENTINEL" Bundle.listD A s' s'.heap := by rw [hhp]; exact vx_Zq.moved hW0.alike (hN.kept hS.2.1)
  have h : ∀ w ∈ Bundle.ownAtomsX own ic cls ix rx names, w.before args s' = true := vx_own hat' (vx_isRefq hU'.1) (vx_isRefq hN'.1) hU'.2.word hN'.2.word
  have hown' : s'.vm.findClass own = some m.cls := by rw [hvm]; exact hown
  have hins : (Cond.instantiable cls 6).before args s' = true := h _ (by simp [Bundle.ownAtomsX])
  obtain ⟨vm₁, cX, kX, hfX, hkX, -, -, X₁, st1⟩ := Y.newCold hexec (own := own) (C := cls) (index := ik) (n := 6) hown' hk' hins hini'
    (g := F0 m pc ls rest) rfl (by rw [hb]; exact d0) (Nat.le_refl _) (Nat.le_refl _)
  generalize hT1 : (T.setVm vm₁).pushCell { cls := cX, slots := kX.instanceTypes.map defaultValue, vm := .none } = T1 at X₁ st1
  have hcat : (Value.ref T.heap.size).category = 1 := rfl
  have hcellA : T1.heap[T.heap.size]? = some (freshCell cX kX) := by rw [← hT1]; exact State.heap_pushCell_size _ _
  have d3' : decode c.code (pc + 3) = .ok (.dup, 1) := by rw [hb]; exact d3
  have d4' : decode c.code (pc + 4) = .ok (.ldc_w is, 3) := by rw [hb]; exact d4
  have hstr' : vk_R own is text sa s' := vk_R.warm hW0 hstr
  obtain ⟨U, hsteps, hrun, hend, hW, hsame, ce, hce, hO1, hO2⟩ := tx_ctor X₁ hexec htr (own := own) (cls := cls) (names := names) (ic := ic) (ix := ix) (rx := rx) x0 x1 x2 x5 hown' hcls hnames h (fun x hx => nomatch hx) hfX hkX hcellA (by rw [hhp, hT]; exact Nat.le_refl _) (msg := .ref sa) rfl
    (g := { method := m, pc := pc + 7, locals := ls, stack := .ref sa :: .ref T.heap.size :: .ref T.heap.size :: rest, locked := none }) rfl hsize rfl rfl (rest := rest) rfl
    (by rw [hb]; exact d7) (by rw [hb]; exact d10) hout hRframes (by simp only [List.map_cons, List.sum_cons, hcat]; omega) hlocks
  obtain ⟨f1, f2⟩ := vx_frame hsame
  rw [hhp] at f1 f2
  have hWs : s.WarmedH U.vm := State.WarmedH.trans hW0 hW
  have hcl : s.vm.findClass cls = some ce.cls := by
    have h9 := hO2
    rw [hvm] at h9
    exact h9
  have hall : s.sameButNew ({ U with vm := s.vm } : State) locs mc ms := by
    subst hA
    obtain ⟨e1, e2⟩ := hsame
    rw [State.setFrames_setFrames] at e1
    have h2 : (T.setVm s.vm).sameButNew ({ U with vm := s.vm } : State) [] (0 + 1) (0 + 6) := ⟨e1, e2⟩
    have h3 := X.same.trans h2
    rw [List.append_nil] at h3
    exact h3.mono hc hs
  refine ⟨U, ?_, .threw T.heap.size, hrun, hend, Or.inr ⟨T.heap.size, rfl, cls, ce, locs, hx U hWs.alike f1 (fun q hq => f2 q hq (fun z hz => nomatch hz)), hce, hO1, hcl, hWs, hall, hf⟩⟩
  refine st1 _ ?_
  show Steps p.tables e below (T1.setTop { method := m, pc := pc + 3, locals := ls, stack := .ref T.heap.size :: rest, locked := none }) _
  jvm_step X₁.here [X₁.here.top, hexec, d3', Value.category]
  exact X₁.ldcStringW hexec (own := own) (text := text) (index := is) (a := sa) hown' hstr'.1 hstr'.2
    (g := { method := m, pc := pc + 4, locals := ls, stack := .ref T.heap.size :: .ref T.heap.size :: rest, locked := none }) rfl d4' _ hsteps
end TY
section TZ
variable {G : Gx} {md : MD} {d K S k sl pc : Nat} {lv : List (Nat × Value)} {rest : List Value} {n : Nat} {I : FI} {R : FR} {J : FJ} {Q : Po}
theorem V_throwX {ik is ic ix : Nat} {rx : ByteArray} (x0 : decode rx 0 = .ok (.aload_n 0, 1)) (x1 : decode rx 1 = .ok (.aload_n 1, 1)) (x2 : decode rx 2 = .ok (.invokespecial ix, 3)) (x5 : decode rx 5 = .ok (.return_, 1)) (kd i : Nat) (text : String) (names : List String) (hcls : Bundle.fit (exN kd) = true) (hnames : ∀ x ∈ names, Bundle.fit x = true) (hlen : names.length ≤ 4) (hk : Cond.classLink (mY md).cls ik (exN kd) ∈ TSg) (hini : Cond.initialized (exN kd) ∈ TSg) (hstr : strL[i]? = some ((mY md).cls, is, text))
    (hw1 : ∀ w ∈ vy_atX (mY md).cls ic (exN kd) ix rx names, w ∈ lw_tbl) (hw2 : (vy_atX (mY md).cls ic (exN kd) ix rx names).all (fun w => goodWord w || isX w) = true) (hH : mH md = []) (hrest : (rest.map fun v => v.category).sum ≤ 8) (hkc : k + 1 ≤ K) (hks : sl + 6 ≤ S) (hq : Q (.inr kd) n I R J)
    (d0 : decode (mB md) pc = .ok (.new ik, 3)) (d3 : decode (mB md) (pc + 3) = .ok (.dup, 1)) (d4 : decode (mB md) (pc + 4) = .ok (.ldc_w is, 3)) (d7 : decode (mB md) (pc + 7) = .ok (.invokespecial ic, 3)) (d10 : decode (mB md) (pc + 10) = .ok (.athrow, 1)) : V G md d K S k sl pc lv rest n I R J Q := by
  intro p e s m args below meth c n0 C H locs ls hR hz hS hl
  have tg : ∀ w ∈ TSg, w.before args s = true := fun w h => C.2.2.2.2.2.1 w (List.mem_cons_of_mem _ h)
  have hE : Ev G s := C.2.2.2.2.2.2.2.2.2.1
  obtain ⟨h1, h2, h3, h4, h5, h6, h7, h8, h9, h10, h11, h12, h13⟩ := hE
  have hw : ∀ w ∈ vy_atX (mY md).cls ic (exN kd) ix rx names, goodWord w = true ∨ isX w = true := fun w h => by
    have := List.all_eq_true.mp hw2 w h
    simpa [Bool.or_eq_true] using this
  refine vy_throwSX (ix := ix) (rx := rx) C.1 C.2.1 h1 x0 x1 x2 x5 C.2.2.2.2.1 hcls hnames (tg _ hk) (tg _ hini) (h5 i _ hstr) (fun w h => ?_) (fun w h => ?_) h8 h9 hS (hl.1.trans C.2.2.1.symm) d0 d3 d4 d7 d10 ?_ (by show names.length + 3 < d + 10; omega) (by show _ + (13 * (names.length + 1) + 43) ≤ 64 * d + 256; omega) hkc hks C.2.2.2.2.2.2.1 (fun t ht hsz hsame => ?_) hS.2.2 hkc hks
  · rcases hw w h with g | g
    · exact tg w (TSg_mem (hw1 w h) g)
    · have hx : w ∈ XW := List.mem_filter.mpr ⟨hw1 w h, g⟩
      exact va_Nw.use (XW_tab hx) (h12 w hx)
  · unfold vx_ot
    rcases List.mem_cons.mp h with rfl | h
    · rfl
    rcases List.mem_cons.mp h with rfl | h
    · rfl
    rcases hw w h with g | g
    · rw [g]; simp
    · have hx : w ∈ XW := List.mem_filter.mpr ⟨hw1 w h, g⟩
      rw [XW_tab hx]; rfl
  · rw [C.2.2.2.2.2.2.2.1, hH]
    intro x hx
    cases hx
  · refine ⟨kd, n, I, R, J, rfl, hq, ⟨hR.1.kept fun j q hq => hsame q.1 (hR.1 j q hq).lt, Nat.le_trans hR.2 hsz⟩, ⟨Nat.le_trans hS.1 hsz, fun q g1 g2 => ?_⟩⟩
    rw [hsame q (Nat.lt_of_lt_of_le g1 hS.1)]
    exact hS.2.1 q g1 g2
end TZ
abbrev thX : List String := ["java/lang/RuntimeException", "java/lang/Exception"]
abbrev nsR : ByteArray := prog_30_method_4_code
set_option maxRecDepth 100000 in
theorem th0a : ∀ w ∈ vy_atX (mY mX10_needOneOf).cls 366 (exN 0) 13 nsR ["java/lang/RuntimeException", "java/lang/Exception"], w ∈ lw_tbl := by decide +kernel
theorem th0b : (vy_atX (mY mX10_needOneOf).cls 366 (exN 0) 13 nsR ["java/lang/RuntimeException", "java/lang/Exception"]).all (fun w => goodWord w || isX w) = true := by decide +kernel
theorem th0k : Cond.classLink (mY mX10_needOneOf).cls 362 (exN 0) ∈ TSg ∧ Cond.initialized (exN 0) ∈ TSg := ⟨(TSg_at 1040 (by decide +kernel) rfl), (TSg_at 116 (by decide +kernel) rfl)⟩
theorem c_X10_needOneOf {G : Gx} {d : Nat} {I : FI} {R : FR} {J : FJ} {Q : Po} {x : Int32} {c : Nat} (hc : c < 2 ^ 30) (h1 : Ix x c → Q (.inl none) 103 I R J) (h0 : ¬ Ix x c → Q (.inr 0) 103 (up2 I 0 13 (I 0 13 + 1)) R J) : Cc G mX10_needOneOf d 1 6 [rf G 0, .int x, .int (nI c)] 103 I R J Q := by
  show V _ _ _ _ _ _ _ _ [(0, rf G 0), (1, .int x), (2, .int (nI c))] [] _ _ _ _ _
  refine V_iload_n 1 1 rfl rfl dX10_needOneOf_0 rfl ?_
  refine V_if_lt 9 4 rfl dX10_needOneOf_1 rfl (fun c1 => ?_) (fun c1 => ?_)
  · refine V_aload_n 10 0 rfl _ rfl rfl dX10_needOneOf_9 rfl ?_
    refine V_dup 11 rfl dX10_needOneOf_10 rfl ?_
    refine V_getI 14 0 10 13 (I 0 13) rfl flX10_356 rfl rfl rfl (by decide) dX10_needOneOf_11 rfl ?_
    refine V_iconst 15 (1) rfl dX10_needOneOf_14 rfl ?_
    refine V_iadd 16 dX10_needOneOf_15 rfl ?_
    refine V_putI 19 0 10 13 flX10_356 rfl rfl rfl (by decide) rfl dX10_needOneOf_16 rfl ?_
    refine V_throwX (ik := 362) (is := 364) (ic := 366) (ix := 13) (rx := nsR) (by decide +kernel) (by decide +kernel) (by decide +kernel) (by decide +kernel) 0 23 _ ["java/lang/RuntimeException", "java/lang/Exception"] (by decide +kernel) thF (by decide) th0k.1 th0k.2 rfl th0a th0b rfl (Nat.le_of_ble_eq_true rfl) (by decide) (by decide) (h0 (fun q => (Ix.of hc q).1 c1)) dX10_needOneOf_19 dX10_needOneOf_22 dX10_needOneOf_23 dX10_needOneOf_26 dX10_needOneOf_29
  · refine V_iload_n 5 1 rfl rfl dX10_needOneOf_4 rfl ?_
    refine V_iload_n 6 2 rfl rfl dX10_needOneOf_5 rfl ?_
    refine V_icmp_lt 30 9 rfl dX10_needOneOf_6 rfl (fun c6 => ?_) (fun c6 => ?_)
    · refine V_ret_v rfl (Nat.le_of_ble_eq_true rfl) (fun h => absurd h (by decide)) (Nat.le_of_ble_eq_true rfl) (h1 (Ix.lt hc c1 c6)) dX10_needOneOf_30
    · refine V_aload_n 10 0 rfl _ rfl rfl dX10_needOneOf_9 rfl ?_
      refine V_dup 11 rfl dX10_needOneOf_10 rfl ?_
      refine V_getI 14 0 10 13 (I 0 13) rfl flX10_356 rfl rfl rfl (by decide) dX10_needOneOf_11 rfl ?_
      refine V_iconst 15 (1) rfl dX10_needOneOf_14 rfl ?_
      refine V_iadd 16 dX10_needOneOf_15 rfl ?_
      refine V_putI 19 0 10 13 flX10_356 rfl rfl rfl (by decide) rfl dX10_needOneOf_16 rfl ?_
      refine V_throwX (ik := 362) (is := 364) (ic := 366) (ix := 13) (rx := nsR) (by decide +kernel) (by decide +kernel) (by decide +kernel) (by decide +kernel) 0 23 _ ["java/lang/RuntimeException", "java/lang/Exception"] (by decide +kernel) thF (by decide) th0k.1 th0k.2 rfl th0a th0b rfl (Nat.le_of_ble_eq_true rfl) (by decide) (by decide) (h0 (fun q => c6 (Ix.of hc q).2)) dX10_needOneOf_19 dX10_needOneOf_22 dX10_needOneOf_23 dX10_needOneOf_26 dX10_needOneOf_29
