section VK
variable {G : Gx} {md : MD} {d K S k sl pc : Nat} {lv : List (Nat × Value)} {rest : List Value} {n : Nat} {I : FI} {R : FR} {J : FJ} {Q : Po}
theorem Kq_i {k' sl' : Nat} {v : Value} (hk : k = k') (hs : sl = sl') (kk : V G md d K S k' sl' pc lv (v :: rest) n I R J Q) : Kq G md d K S k sl pc lv rest Q (.inl (some v)) n I R J := by
  subst hk; subst hs
  exact kk
theorem Kq_v {k' sl' : Nat} (hk : k = k') (hs : sl = sl') (kk : V G md d K S k' sl' pc lv rest n I R J Q) : Kq G md d K S k sl pc lv rest Q (.inl none) n I R J := by
  subst hk; subst hs
  exact kk
theorem V_rw {x y : Int32} (h : x = y) (kk : V G md d K S k sl pc lv (.int y :: rest) n I R J Q) : V G md d K S k sl pc lv (.int x :: rest) n I R J Q := by rw [h]; exact kk
theorem V_rwl {x y : Int64} (h : x = y) (kk : V G md d K S k sl pc lv (.long y :: rest) n I R J Q) : V G md d K S k sl pc lv (.long x :: rest) n I R J Q := by rw [h]; exact kk
theorem V_rwI {I' : FI} (h : I = I') (kk : V G md d K S k sl pc lv rest n I' R J Q) : V G md d K S k sl pc lv rest n I R J Q := by rw [h]; exact kk
theorem V_ialdN (pc' : Nat) (i len j : Nat) (v : Int32) (hv : I i j = v) (hj : j < len) (hl : len < 2 ^ 31) (hy : lay i = .inr (0, len)) (hn : i < n) (hd : decode (mB md) pc = .ok (.iaload, 1)) (hp : pc + 1 = pc') (kk : V G md d K S k sl pc' lv (.int v :: rest) n I R J Q) : V G md d K S k sl pc lv (.int (nI j) :: rf G i :: rest) n I R J Q :=
  V_iald pc' i len v (by rw [nI_clamp (by omega)]; exact hv) (vp_in_nI hj hl) hy hn hd hp kk
theorem V_baldN (pc' : Nat) (i len j : Nat) (v : Int32) (hv : I i j = v) (hj : j < len) (hl : len < 2 ^ 31) (hy : lay i = .inr (1, len)) (hn : i < n) (hd : decode (mB md) pc = .ok (.baload, 1)) (hp : pc + 1 = pc') (kk : V G md d K S k sl pc' lv (.int v :: rest) n I R J Q) : V G md d K S k sl pc lv (.int (nI j) :: rf G i :: rest) n I R J Q :=
  V_bald pc' i len v (by rw [nI_clamp (by omega)]; exact hv) (vp_in_nI hj hl) hy hn hd hp kk
theorem V_zaldN (pc' : Nat) (i len j : Nat) (v : Int32) (hv : I i j = v) (hj : j < len) (hl : len < 2 ^ 31) (hy : lay i = .inr (2, len)) (hn : i < n) (hd : decode (mB md) pc = .ok (.baload, 1)) (hp : pc + 1 = pc') (kk : V G md d K S k sl pc' lv (.int v :: rest) n I R J Q) : V G md d K S k sl pc lv (.int (nI j) :: rf G i :: rest) n I R J Q :=
  V_zald pc' i len v (by rw [nI_clamp (by omega)]; exact hv) (vp_in_nI hj hl) hy hn hd hp kk
theorem V_iastN (pc' : Nat) {v : Int32} (i len j : Nat) (hj : j < len) (hl : len < 2 ^ 31) (hy : lay i = .inr (0, len)) (hn : i < n) (hd : decode (mB md) pc = .ok (.iastore, 1)) (hp : pc + 1 = pc') (kk : V G md d K S k sl pc' lv rest n (up2 I i j v) R J Q) : V G md d K S k sl pc lv (.int v :: .int (nI j) :: rf G i :: rest) n I R J Q :=
  V_iast pc' i len (vp_in_nI hj hl) hy hn hd hp (by rw [nI_clamp (by omega)]; exact kk)
theorem V_bastN (pc' : Nat) {v : Int32} (i len j : Nat) (hj : j < len) (hl : len < 2 ^ 31) (hy : lay i = .inr (1, len)) (hn : i < n) (hd : decode (mB md) pc = .ok (.bastore, 1)) (hp : pc + 1 = pc') (kk : V G md d K S k sl pc' lv rest n (up2 I i j (vp_nar .byte v)) R J Q) : V G md d K S k sl pc lv (.int v :: .int (nI j) :: rf G i :: rest) n I R J Q :=
  V_bast pc' i len (vp_in_nI hj hl) hy hn hd hp (by rw [nI_clamp (by omega)]; exact kk)
theorem V_zastN (pc' : Nat) {v : Int32} (i len j : Nat) (hj : j < len) (hl : len < 2 ^ 31) (hy : lay i = .inr (2, len)) (hn : i < n) (hd : decode (mB md) pc = .ok (.bastore, 1)) (hp : pc + 1 = pc') (kk : V G md d K S k sl pc' lv rest n (up2 I i j (vp_nar .boolean v)) R J Q) : V G md d K S k sl pc lv (.int v :: .int (nI j) :: rf G i :: rest) n I R J Q :=
  V_zast pc' i len (vp_in_nI hj hl) hy hn hd hp (by rw [nI_clamp (by omega)]; exact kk)
/-- fewer locals -/
theorem V_lv {lv' : List (Nat × Value)} (ks : List Nat) (h : lv_pick lv ks = lv') (kk : V G md d K S k sl pc lv' rest n I R J Q) : V G md d K S k sl pc lv rest n I R J Q :=
  fun p e s m args below meth c n0 C H locs ls hR hz hS hl => kk p e s m args below meth c n0 C H locs ls hR hz hS (lv_sub hl ks h)
/-- 'throw new E("text")' -/
theorem V_throw {ik is ic : Nat} (kd i : Nat) (text : String) (names : List String) (hcls : Bundle.fit (exN kd) = true) (hnames : ∀ x ∈ names, Bundle.fit x = true) (hlen : names.length ≤ 4) (hk : Cond.classLink (mY md).cls ik (exN kd) ∈ TSg) (hini : Cond.initialized (exN kd) ∈ TSg) (hstr : strL[i]? = some ((mY md).cls, is, text))
    (hw1 : ∀ w ∈ vx_atS (mY md).cls ic (exN kd) names, w ∈ lw_tbl) (hw2 : (vx_atS (mY md).cls ic (exN kd) names).all (fun w => goodWord w || isX w) = true) (hH : mH md = []) (hrest : (rest.map fun v => v.category).sum ≤ 8) (hkc : k + 1 ≤ K) (hks : sl + 6 ≤ S) (hq : Q (.inr kd) n I R J)
    (d0 : decode (mB md) pc = .ok (.new ik, 3)) (d3 : decode (mB md) (pc + 3) = .ok (.dup, 1)) (d4 : decode (mB md) (pc + 4) = .ok (.ldc_w is, 3)) (d7 : decode (mB md) (pc + 7) = .ok (.invokespecial ic, 3)) (d10 : decode (mB md) (pc + 10) = .ok (.athrow, 1)) : V G md d K S k sl pc lv rest n I R J Q := by
  intro p e s m args below meth c n0 C H locs ls hR hz hS hl
  have tg : ∀ w ∈ TSg, w.before args s = true := fun w h => C.2.2.2.2.2.1 w (List.mem_cons_of_mem _ h)
  have hE : Ev G s := C.2.2.2.2.2.2.2.2.2.1
  obtain ⟨h1, h2, h3, h4, h5, h6, h7, h8, h9, h10, h11, h12, h13⟩ := hE
  have hw : ∀ w ∈ vx_atS (mY md).cls ic (exN kd) names, goodWord w = true ∨ isX w = true := fun w h => by
    have := List.all_eq_true.mp hw2 w h
    simpa [Bool.or_eq_true] using this
  refine vx_throwSW C.1 C.2.1 h1 C.2.2.2.2.1 hcls hnames (tg _ hk) (tg _ hini) (h5 i _ hstr) (fun w h => ?_) (fun w h => ?_) h8 h9 hS (hl.1.trans C.2.2.1.symm) d0 d3 d4 d7 d10 ?_ (by show names.length + 3 < d + 10; omega) (by show _ + (13 * (names.length + 1) + 43) ≤ 64 * d + 256; omega) hkc hks C.2.2.2.2.2.2.1 (fun t ht hsz hsame => ?_) hS.2.2 hkc hks
  · rcases hw w h with g | g
    · exact tg w (TSg_mem (hw1 w h) g)
    · have hx : w ∈ XW := List.mem_filter.mpr ⟨hw1 w h, g⟩
      exact va_Nw.use (XW_tab hx) (h12 w hx)
  · unfold vx_ot
    rcases List.mem_cons.mp h with rfl | h
    · rfl
    rcases List.mem_cons.mp h with rfl | h
    · rfl
    rcases hw w h with g | g
    · rw [g]; simp
    · have hx : w ∈ XW := List.mem_filter.mpr ⟨hw1 w h, g⟩
      rw [XW_tab hx]; rfl
  · rw [C.2.2.2.2.2.2.2.1, hH]
    intro x hx
    cases hx
  · refine ⟨kd, n, I, R, J, rfl, hq, ⟨hR.1.kept fun j q hq => hsame q.1 (hR.1 j q hq).lt, Nat.le_trans hR.2 hsz⟩, ⟨Nat.le_trans hS.1 hsz, fun q g1 g2 => ?_⟩⟩
    rw [hsame q (Nat.lt_of_lt_of_le g1 hS.1)]
    exact hS.2.1 q g1 g2
end VK
/-- the reference's arrays: field by field -/
def refM (k : Nat) : Option Nat := [none, some 70, none, none, none, none, none, none, none, some 71, some 72, some 73, some 74, some 75, some 76, some 77, some 78, some 79, none, none, none, none, none, none, some 80, some 81, some 82, some 83, some 84, none, none, some 85, some 86, some 87, none, none, none, none, none, none, some 88, some 89, some 90, some 91, some 92, some 93, none, some 94, some 95, some 96, some 97, some 98, some 99, some 100, none, some 101, none].getD k none
def refK : List (List (Option Nat)) := [[some 1, some 3, some 18, some 26, some 34, some 39, some 43, some 50, some 51, some 58, some 63, some 66, none, none, none], [some 2, none, none, none, none, none, none, none, none], [], [some 4, some 11, some 16, some 17], [some 5, some 6, some 7, some 8, some 9, some 10, none, none, none], [], [], [], [], [], [], [some 12, some 13, some 14, some 15, none], [], [], [], [], [], [], [some 19, some 20, some 21, some 22, some 23, some 24, some 25, none, none], [], [], [], [], [], [], [], [some 27, some 28, some 29, some 30, some 31, some 32, some 33, none, none], [], [], [], [], [], [], [], [some 35, some 36, some 37, some 38, none, none, none, none], [], [], [], [], [some 40, some 41, some 42, none, none], [], [], [], [some 44, some 45, some 46, some 47, some 48, some 49, none, none, none, none, none], [], [], [], [], [], [], [none], [some 52, some 53, some 54, some 55, some 56, some 57, none, none, none], [], [], [], [], [], [], [some 59, some 60, some 61, some 62, none], [], [], [], [], [some 64, some 65, none], [], [], [some 67, some 68, none], [], []]
/-- the class's references; c, l, b: which COAST, LAW, BOOK is in use (the other one is spare) -/
def refC (c l b o k : Nat) : Option Nat := match o with
  | 0 => [some 1, some 3, some 18, some 26, some 34, some 39, some 43, some 50, some (55 - c), some (69 - l), some b, some (129 - b)].getD k none
  | 3 => [some c, some l, some 16, some 17].getD k none
  | _ => (refK.getD o []).getD k none
/-- the constant ones -/
def RK (R : FR) : Prop := ∀ o k, o < 69 → o ≠ 0 → o ≠ 3 → R o k = (refK.getD o []).getD k none
