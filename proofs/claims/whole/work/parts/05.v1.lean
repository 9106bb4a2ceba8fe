/-! ===== THE LAYER V: one fixed world (the class's cells, the reference's, the law's long[1]) at addresses b + 0, b + 1 ..; a state of it is three functions ===== -/
abbrev Gx : Type := Launch × (Nat → ClassId) × (Nat → Nat → Nat) × (Nat → ClassId) × Nat × (Nat → Nat) × (Nat → Nat) × Nat × Nat × (Nat → Int32)
def g_l (G : Gx) : Launch := G.1
def g_D (G : Gx) : va_G := (G.2.1, G.2.2.1)
def g_T (G : Gx) : Nat → ClassId := G.2.2.2.1
def g_b (G : Gx) : Nat := G.2.2.2.2.1
def g_K (G : Gx) : Nat → Nat := G.2.2.2.2.2.1
def g_V (G : Gx) : Nat → Nat := G.2.2.2.2.2.2.1
def g_s (G : Gx) : Nat := G.2.2.2.2.2.2.2.1
def g_L (G : Gx) : Nat := G.2.2.2.2.2.2.2.2.1
def g_x (G : Gx) : Nat → Int32 := G.2.2.2.2.2.2.2.2.2
def gA (G : Gx) : Nat → Prop := fun q => g_b G ≤ q
abbrev FI : Type := Nat → Nat → Int32
abbrev FR : Type := Nat → Nat → Option Nat
abbrev FJ : Type := Nat → Nat → Int64
/-- the world's cells: an object of class number ci, or an array (0 int, 1 byte, 2 boolean, 3 long; its length) -/
def layL : List (Nat ⊕ (Nat × Nat)) := [.inl 10, .inl 8, .inr (1, 600), .inl 7, .inl 2, .inr (0, 8), .inr (0, 8), .inr (0, 6), .inr (0, 6), .inr (0, 6), .inr (0, 6), .inl 5, .inr (0, 150), .inr (0, 150), .inr (0, 150), .inr (0, 150), .inr (0, 8), .inr (0, 6), .inl 3, .inr (0, 6), .inr (0, 6), .inr (0, 6), .inr (0, 6), .inr (0, 6), .inr (0, 8), .inr (0, 6), .inl 3, .inr (0, 6), .inr (0, 6), .inr (0, 6), .inr (0, 6), .inr (0, 6), .inr (0, 8), .inr (0, 6), .inl 9, .inr (0, 31), .inr (0, 31), .inr (0, 31), .inr (0, 31), .inl 4, .inr (0, 736), .inr (0, 2346), .inr (0, 3), .inl 0, .inr (0, 1152), .inr (0, 100), .inr (0, 48), .inr (0, 256), .inr (0, 6), .inr (0, 6), .inl 6, .inl 2, .inr (0, 8), .inr (0, 8), .inr (0, 6), .inr (0, 6), .inr (0, 6), .inr (0, 6), .inl 5, .inr (0, 150), .inr (0, 150), .inr (0, 150), .inr (0, 150), .inl 1, .inr (0, 8), .inr (0, 8), .inl 1, .inr (0, 8), .inr (0, 8), .inl 11, .inr (0, 2), .inr (0, 600), .inr (0, 16), .inr (0, 12), .inr (0, 6), .inr (0, 6), .inr (0, 16), .inr (0, 12), .inr (0, 6), .inr (0, 6), .inr (0, 150), .inr (0, 150), .inr (0, 150), .inr (0, 150), .inr (0, 150), .inr (0, 8), .inr (0, 150), .inr (0, 150), .inr (0, 51), .inr (0, 51), .inr (0, 816), .inr (0, 6), .inr (0, 24), .inr (0, 24), .inr (0, 24), .inr (0, 1792), .inr (0, 6), .inr (0, 48), .inr (0, 1152), .inr (2, 48), .inr (0, 100), .inr (0, 2604), .inr (3, 1)]
def lay (i : Nat) : Nat ⊕ (Nat × Nat) := layL.getD i (.inl 6)
abbrev NT : Nat := 103
def tyOf (t : Nat) : FieldType := match t with
  | 0 => .int
  | 1 => .byte
  | 2 => .boolean
  | _ => .long
def g_tys (G : Gx) : List (ClassId × FieldType) := [(g_T G 0, .int), (g_T G 1, .byte), (g_T G 2, .boolean), (g_T G 3, .long)]
def clTab : List (String × u_T × Nat × (Nat → FieldType)) := [(RX0, TX0, 11, tyX0), (RX1, TX1, 3, tyX1), (RX2, TX2, 9, tyX2), (RX3, TX3, 9, tyX3), (RX4, TX4, 5, tyX4), (RX5, TX5, 5, tyX5), (RX6, TX6, 1, tyX6), (RX7, TX7, 4, tyX7), (RX8, TX8, 9, tyX8), (RX9, TX9, 8, tyX9), (RX10, TX10, 15, tyX10), (RX11, TX11, 57, tyX11)]
def clR (ci : Nat) : String × u_T × Nat × (Nat → FieldType) := clTab.getD ci ("", TX6, 0, tyX6)
def clC (ci : Nat) : String := (clR ci).1
def clT (ci : Nat) : u_T := (clR ci).2.1
def clN (ci : Nat) : Nat := (clR ci).2.2.1
def clTy (ci : Nat) : Nat → FieldType := (clR ci).2.2.2
/-- which fields are ints -/
def fIL : List (List Bool) := [[false, false, false, false, false, false, true, true, true, true, true], [false, false, true], [false, false, false, false, false, false, true, true, true], [false, false, false, false, false, false, false, true, true], [false, false, false, true, true], [false, false, false, false, true], [true], [false, false, false, false], [false, true, true, true, true, true, true, true, true], [false, false, false, false, true, true, true, true], [false, false, false, false, false, false, false, false, false, false, false, false, true, true, true], [true, false, true, true, true, true, true, true, true, false, false, false, false, false, false, false, false, false, true, true, true, true, true, true, false, false, false, false, false, true, true, false, false, false, true, true, true, true, true, true, false, false, false, false, false, false, true, false, false, false, false, false, false, false, true, false, true]]
def fI (ci k : Nat) : Bool := (fIL.getD ci []).getD k true
def isNest (w : Cond) : Bool := match w with
  | .fieldLinkNest .. => true
  | .methodLinkNest .. => true
  | _ => false
def isX (w : Cond) : Bool := match w with
  | .declares _ => true
  | .castable .. => true
  | _ => false
def XW : List Cond := lw_tbl.filter isX
def TSg : List Cond := lw_tbl.filter goodWord
def NW : List Cond := lw_tbl.filter isNest
theorem TSg_mem {w : Cond} (h : w ∈ lw_tbl) (g : goodWord w = true) : w ∈ TSg := List.mem_filter.mpr ⟨h, g⟩
theorem NW_mem {w : Cond} (h : w ∈ lw_tbl) (g : isNest w = true) : w ∈ NW := List.mem_filter.mpr ⟨h, g⟩
theorem TSg_at (i : Nat) {w : Cond} (h : lw_tbl[i]? = some w) (g : goodWord w = true) : w ∈ TSg := TSg_mem (List.mem_of_getElem? h) g
theorem NW_at (i : Nat) {w : Cond} (h : lw_tbl[i]? = some w) (g : isNest w = true) : w ∈ NW := NW_mem (List.mem_of_getElem? h) g
theorem XW_at (i : Nat) {w : Cond} (h : lw_tbl[i]? = some w) (g : isX w = true) : w ∈ XW := List.mem_filter.mpr ⟨List.mem_of_getElem? h, g⟩
theorem TSg_good {w : Cond} (h : w ∈ TSg) : goodWord w = true := (List.mem_filter.mp h).2
def rf (G : Gx) (i : Nat) : Value := .ref (g_b G + i)
def sr (G : Gx) (i : Nat) : Value := .ref (g_K G i)
def rO (G : Gx) (r : Option Nat) : Value := match r with
  | none => .null
  | some i => rf G i
def wF (G : Gx) (I : FI) (R : FR) (i ci k : Nat) : Value := if fI ci k = true then .int (I i k) else rO G (R i k)
def wC (G : Gx) (I : FI) (R : FR) (J : FJ) (i : Nat) : va_E := match lay i with
  | .inl ci => .inr (ci, (List.range (clN ci)).map (wF G I R i ci))
  | .inr (t, len) => .inl (g_T G t, len, if t = 3 then .inr (.inl (J i)) else .inl (I i))
def wW (G : Gx) (n : Nat) (I : FI) (R : FR) (J : FJ) : va_W := (List.range n).map fun i => (g_b G + i, wC G I R J i)
def up2 (I : FI) (i k : Nat) (v : Int32) : FI := fun a => if a = i then upd (I i) k v else I a
def upR (R : FR) (i k : Nat) (v : Option Nat) : FR := fun a => if a = i then (fun j => if j = k then v else R i j) else R a
def upJ (J : FJ) (i k : Nat) (v : Int64) : FJ := fun a => if a = i then vp_updL (J i) k v else J a
def upA (I : FI) (i : Nat) (f : Nat → Int32) : FI := fun a => if a = i then f else I a
def upQ (R : FR) (i : Nat) (f : Nat → Option Nat) : FR := fun a => if a = i then f else R a
theorem up2_s (I : FI) (i k : Nat) (v : Int32) : up2 I i k v i = upd (I i) k v := if_pos rfl
theorem up2_n (I : FI) {i j : Nat} (k : Nat) (v : Int32) (h : j ≠ i) : up2 I i k v j = I j := if_neg h
theorem upR_s (R : FR) (i k : Nat) (v : Option Nat) : upR R i k v i = fun j => if j = k then v else R i j := if_pos rfl
theorem upR_n (R : FR) {i j : Nat} (k : Nat) (v : Option Nat) (h : j ≠ i) : upR R i k v j = R j := if_neg h
theorem wW_get {G : Gx} {n : Nat} {I : FI} {R : FR} {J : FJ} {i : Nat} (h : i < n) : (wW G n I R J)[i]? = some (g_b G + i, wC G I R J i) := by
  simp [wW, h]
theorem wW_put {G : Gx} {n : Nat} {I I' : FI} {R R' : FR} {J J' : FJ} {i : Nat} {e : va_E} (he : e = wC G I' R' J' i) (h : ∀ j, j ≠ i → wC G I' R' J' j = wC G I R J j) : (wW G n I R J).set i (g_b G + i, e) = wW G n I' R' J' := by
  subst he
  refine List.ext_getElem? fun j => ?_
  by_cases hj : j < n
  · by_cases hij : i = j
    · subst hij
      rw [List.getElem?_set_self (by simpa [wW] using hj), wW_get hj]
    · rw [List.getElem?_set_ne hij, wW_get hj, wW_get hj, h j (Ne.symm hij)]
  · have h1 : ((wW G n I R J).set i (g_b G + i, wC G I' R' J' i))[j]? = none := List.getElem?_eq_none (by simp [wW]; omega)
    have h2 : (wW G n I' R' J')[j]? = none := List.getElem?_eq_none (by simp [wW]; omega)
    rw [h1, h2]
theorem wW_push {G : Gx} {n : Nat} {I I' : FI} {R R' : FR} {J J' : FJ} {e : va_E} (he : e = wC G I' R' J' n) (h : ∀ j, j < n → wC G I' R' J' j = wC G I R J j) : wW G n I R J ++ [(g_b G + n, e)] = wW G (n + 1) I' R' J' := by
  subst he
  unfold wW
  rw [List.range_succ, List.map_append]
  congr 1
  exact List.map_congr_left fun j hj => by rw [h j (List.mem_range.mp hj)]
theorem wD {G : Gx} {n : Nat} {I : FI} {R : FR} {J : FJ} : va_D (gA G) (wW G n I R J) := by
  have key : ∀ (i : Nat) (p : Nat × va_E), (wW G n I R J)[i]? = some p → p.1 = g_b G + i := by
    intro i p hp
    by_cases hi : i < n
    · rw [wW_get hi] at hp
      rw [← Option.some.inj hp]
    · rw [List.getElem?_eq_none (by simp [wW]; omega)] at hp
      cases hp
  refine ⟨fun i j p q hp hq h => ?_, fun i p hp => ?_⟩
  · rw [key i p hp, key j q hq] at h
    exact Nat.add_left_cancel h
  · rw [key i p hp]
    exact Nat.le_add_right _ _
theorem wC_o {G : Gx} {I : FI} {R : FR} {J : FJ} {i ci : Nat} (h : lay i = .inl ci) : wC G I R J i = .inr (ci, (List.range (clN ci)).map (wF G I R i ci)) := by
  unfold wC; rw [h]
theorem wC_i {G : Gx} {I : FI} {R : FR} {J : FJ} {i t len : Nat} (h : lay i = .inr (t, len)) (ht : t ≠ 3) : wC G I R J i = .inl (g_T G t, len, .inl (I i)) := by
  unfold wC; rw [h]; simp [ht]
theorem wC_j {G : Gx} {I : FI} {R : FR} {J : FJ} {i len : Nat} (h : lay i = .inr (3, len)) : wC G I R J i = .inl (g_T G 3, len, .inr (.inl (J i))) := by
  unfold wC; rw [h]; simp
theorem wC_at {G : Gx} {I I' : FI} {R R' : FR} {J J' : FJ} {i : Nat} (h1 : I' i = I i) (h2 : R' i = R i) (h3 : J' i = J i) : wC G I' R' J' i = wC G I R J i := by
  unfold wC wF; rw [h1, h2, h3]
theorem map_get {α : Type} {f : Nat → α} {N k : Nat} (h : k < N) : ((List.range N).map f)[k]? = some (f k) := by simp [h]
theorem map_set {α : Type} {f g : Nat → α} {N k : Nat} {v : α} (hv : v = g k) (h : ∀ j, j ≠ k → g j = f j) : ((List.range N).map f).set k v = (List.range N).map g := by
  subst hv
  refine List.ext_getElem? fun j => ?_
  by_cases hj : j < N
  · by_cases hkj : k = j
    · subst hkj
      rw [List.getElem?_set_self (by simpa using hj), map_get hj]
    · rw [List.getElem?_set_ne hkj, map_get hj, map_get hj, h j (Ne.symm hkj)]
  · rw [List.getElem?_eq_none (by simp; omega), List.getElem?_eq_none (by simp; omega)]
/-- the heap holds the state -/
def Rp (G : Gx) (n : Nat) (I : FI) (R : FR) (J : FJ) (H : Heap) : Prop := va_P (g_D G) vwCl (wW G n I R J) H ∧ g_b G + n ≤ H.size
/-- an outcome: a value, or what is thrown (0 NoSuchElementException, 1 IllegalArgumentException) -/
abbrev Ot : Type := Option Value ⊕ Nat
abbrev Po : Type := Ot → Nat → FI → FR → FJ → Prop
def exN (k : Nat) : String := if k = 0 then "java/util/NoSuchElementException" else "java/lang/IllegalArgumentException"
/-- while the world isn't whole (n < NT) nothing but it is made, and all that may be made is (n0: its cells at the entry) -/
def qc (G : Gx) (Q : Po) (n0 K : Nat) : Array Value → State → Outcome → State → Prop := fun _ st o t => ∃ (v : Option Value) (n : Nat) (I : FI) (R : FR) (J : FJ), o = .returned v ∧ Q (.inl v) n I R J ∧ Rp G n I R J t.heap ∧ va_F (gA G) st t ∧ (n < NT → n0 + K ≤ n)
def xc (G : Gx) (Q : Po) : String → State → State → Prop := fun E st t => ∃ (k n : Nat) (I : FI) (R : FR) (J : FJ), E = exN k ∧ Q (.inr k) n I R J ∧ Rp G n I R J t.heap ∧ va_F (gA G) st t
/-- a method: its name, code, locals, answer's type, handlers -/
abbrev MD : Type := MethodName × ByteArray × Nat × Option FieldType × List (Nat × Nat × Nat × Nat)
def mY (m : MD) : MethodName := m.1
def mB (m : MD) : ByteArray := m.2.1
def mL (m : MD) : Nat := m.2.2.1
def mR (m : MD) : Option FieldType := m.2.2.2.1
def mH (m : MD) : List (Nat × Nat × Nat × Nat) := m.2.2.2.2
def mW (m : MD) : Cond := if mH m = [] then .code (mY m) (mB m) (mL m) (mR m) else .codeWith (mY m) (mB m) (mL m) (mR m) (mH m)
def mWs (m : MD) : List Cond := mW m :: TSg
/-- the Strings of the constant pools: class, entry, text -/
def strL : List (String × Nat × String) := [("StormHats", 371, "a number that is not allowed there"), ("StormHats$Coast", 57, "hat"), ("StormHats$Coast", 66, "ground"), ("StormHats$Coast", 71, "man"), ("StormHats$Coast", 76, "heir"), ("StormHats$Law", 76, "least"), ("StormHats$Law", 82, "most"), ("StormHats$Law", 98, "force"), ("StormHats$Law", 100, "angle"), ("StormHats$Law", 102, "hours"), ("StormHats$Law", 104, "boat"), ("StormHats$Law", 106, "hurt"), ("StormHats$Law", 108, "fish"), ("StormHats$Law", 110, "others"), ("StormHats$Law", 112, "hour"), ("StormHats$Work", 81, "wear"), ("StormHats$Work", 87, "doff"), ("StormHats$Work", 89, "sail"), ("StormHats$Work", 91, "home"), ("StormHats$Work", 93, "oil"), ("StormHats$Work", 95, "die"), ("StormHats$Work", 97, "hour"), ("StormHats$Work", 99, "again"), ("StormHats", 364, "no such hat, ground or man"), ("StormHatsModel", 203, "hat"), ("StormHatsModel", 208, "ground"), ("StormHatsModel", 209, "man"), ("StormHatsModel", 211, "heir"), ("StormHatsModel", 282, "least"), ("StormHatsModel", 287, "most"), ("StormHatsModel", 267, "force"), ("StormHatsModel", 269, "angle"), ("StormHatsModel", 271, "hours"), ("StormHatsModel", 273, "boat"), ("StormHatsModel", 274, "hurt"), ("StormHatsModel", 276, "fish"), ("StormHatsModel", 278, "others"), ("StormHatsModel", 280, "hour"), ("StormHatsModel", 306, "wear"), ("StormHatsModel", 308, "sail"), ("StormHatsModel", 310, "doff"), ("StormHatsModel", 312, "home"), ("StormHatsModel", 314, "die"), ("StormHatsModel", 316, "oil"), ("StormHatsModel", 318, "again")]
def strT : List (List Int32) := [[97, 32, 110, 117, 109, 98, 101, 114, 32, 116, 104, 97, 116, 32, 105, 115, 32, 110, 111, 116, 32, 97, 108, 108, 111, 119, 101, 100, 32, 116, 104, 101, 114, 101], [104, 97, 116], [103, 114, 111, 117, 110, 100], [109, 97, 110], [104, 101, 105, 114], [108, 101, 97, 115, 116], [109, 111, 115, 116], [102, 111, 114, 99, 101], [97, 110, 103, 108, 101], [104, 111, 117, 114, 115], [98, 111, 97, 116], [104, 117, 114, 116], [102, 105, 115, 104], [111, 116, 104, 101, 114, 115], [104, 111, 117, 114], [119, 101, 97, 114], [100, 111, 102, 102], [115, 97, 105, 108], [104, 111, 109, 101], [111, 105, 108], [100, 105, 101], [104, 111, 117, 114], [97, 103, 97, 105, 110], [110, 111, 32, 115, 117, 99, 104, 32, 104, 97, 116, 44, 32, 103, 114, 111, 117, 110, 100, 32, 111, 114, 32, 109, 97, 110], [104, 97, 116], [103, 114, 111, 117, 110, 100], [109, 97, 110], [104, 101, 105, 114], [108, 101, 97, 115, 116], [109, 111, 115, 116], [102, 111, 114, 99, 101], [97, 110, 103, 108, 101], [104, 111, 117, 114, 115], [98, 111, 97, 116], [104, 117, 114, 116], [102, 105, 115, 104], [111, 116, 104, 101, 114, 115], [104, 111, 117, 114], [119, 101, 97, 114], [115, 97, 105, 108], [100, 111, 102, 102], [104, 111, 109, 101], [100, 105, 101], [111, 105, 108], [97, 103, 97, 105, 110]]
def strB (i : Nat) : List Int32 := (strT.getD i [])
/-- what stays as it was at the start: the tables, the nest, the Strings, Throwable's statics, the script -/
def Ev (G : Gx) (U : State) : Prop :=
  (g_l G).stackTraces = false ∧ g_b G ≤ U.heap.size ∧ va_K (g_D G) vwCl (g_tys G) U ∧ (∀ w ∈ NW, va_Nw w U) ∧
  (∀ (i : Nat) (q : String × Nat × String), strL[i]? = some q → vk_R q.1 q.2.1 q.2.2 (g_K G i) U) ∧
  (∀ i : Nat, i < 45 → va_O "java/lang/String" (g_K G i) (gA G) U U.heap ∧ va_OF "java/lang/String" "coder" "B" (.int 0) (g_K G i) (gA G) U U.heap ∧ va_OF "java/lang/String" "value" "[B" (.ref (g_V G i)) (g_K G i) (gA G) U U.heap ∧ va_T .byte (g_V G i) (strB i).length (fun j => .int ((strB i).getD j 0)) (gA G) U U.heap) ∧
  va_Z "java/lang/String" "COMPACT_STRINGS" "Z" (.int 1) (gA G) U U.heap ∧ vx_Zq "java/lang/Throwable" "UNASSIGNED_STACK" "[Ljava/lang/StackTraceElement;" (gA G) U U.heap ∧ vx_Zq "java/lang/Throwable" "SUPPRESSED_SENTINEL" "Ljava/util/List;" (gA G) U U.heap ∧
  va_X (g_s G) (g_L G) (g_x G) U U.heap ∧ g_s G < g_b G ∧ (∀ w ∈ XW, va_Nw w U) ∧ va_Nc "java/lang/IllegalArgumentException" "java/util/NoSuchElementException" U ∧ va_Zq "jdk/internal/util/Preconditions" "SIOOBE_FORMATTER" "Ljava/util/function/BiFunction;" (gA G) U U.heap
theorem NW_nest {w : Cond} (h : w ∈ NW) : isNest w = true := (List.mem_filter.mp h).2
theorem NW_warm {w : Cond} (h : w ∈ NW) {s U : State} (hW : s.WarmedH U.vm) (hZ : va_Nw w s) : va_Nw w U := by
  have h1 := NW_nest h
  cases w <;> first | exact va_Nw.warmF hW hZ | exact va_Nw.warmM hW hZ | (exact absurd h1 (by simp [isNest]))
theorem NW_tab {w : Cond} (h : w ∈ NW) : w.onTables = true := by
  have h1 := NW_nest h
  cases w <;> first | rfl | (exact absurd h1 (by simp [isNest]))
theorem XW_x {w : Cond} (h : w ∈ XW) : isX w = true := (List.mem_filter.mp h).2
theorem XW_tab {w : Cond} (h : w ∈ XW) : w.onTables = true := by
  have h1 := XW_x h
  cases w <;> first | rfl | (exact absurd h1 (by simp [isX]))
theorem XW_warm {w : Cond} (h : w ∈ XW) {s U : State} (hW : s.WarmedH U.vm) (hZ : va_Nw w s) : va_Nw w U := by
  have hk : w.keepsFace = true := by
    have h1 := XW_x h
    cases w <;> first | rfl | (exact absurd h1 (by simp [isX]))
  exact va_tabs (XW_tab h) (rfl : (s.setVm U.vm).vm = U.vm) (Cond.before_shiftedFace (args := #[]) (State.Shifted.of_warmed hW) w hk hZ)
theorem Nc_moved {C T : String} {u U : State} (hvm : u.vm.Alike U.vm) (h : va_Nc C T u) : va_Nc C T U := by
  obtain ⟨c, t, h1, h2, h3⟩ := h
  exact ⟨c, t, by rw [hvm.findClass]; exact h1, by rw [hvm.findClass]; exact h2, by rw [hvm.assignable]; exact h3⟩
/-- .. and it is so wherever a callee begins -/
theorem Ev.go {G : Gx} {s U : State} {H : Heap} {locs : List Loc} (h : Ev G s) (hS : va_S (gA G) s.heap H locs) (hU : U.heap = H) (hW : s.WarmedH U.vm) : Ev G U := by
  obtain ⟨h1, h2, h3, h4, h5, h6, h7, h8, h9, h10, h11, h12, h13, h14⟩ := h
  subst hU
  have ha := hW.alike
  have hk : ∀ a : Nat, a < s.heap.size → ¬ gA G a → U.heap[a]? = s.heap[a]? := hS.2.1
  refine ⟨h1, Nat.le_trans h2 hS.1, va_K.moved ha h3, fun w hw => NW_warm hw hW (h4 w hw), fun i q hq => vk_R.warm hW (h5 i q hq), fun i hi => ?_, va_Z.moved ha (va_Z.kept h7 hk), vx_Zq.moved ha (h8.kept hk), vx_Zq.moved ha (h9.kept hk), ?_, h11, fun w hw => XW_warm hw hW (h12 w hw), Nc_moved ha h13, va_Zq.moved ha (h14.kept hk)⟩
  · obtain ⟨q1, q2, q3, q4⟩ := h6 i hi
    exact ⟨va_O.moved ha (q1.kept hk), va_OF.moved ha (q2.kept hk), va_OF.moved ha (q3.kept hk), va_T.moved ha (q4.kept hk)⟩
  · exact va_X.moved ha (h10.kept (hk _ (Nat.lt_of_lt_of_le h11 h2) (Nat.not_le.mpr h11)))
theorem Ev.same {G : Gx} {u U : State} (h : Ev G u) (hh : U.heap = u.heap) (hv : U.vm = u.vm) : Ev G U := by
  obtain ⟨h1, h2, h3, h4, h5, h6, h7, h8, h9, h10, h11, h12, h13, h14⟩ := h
  have ha : u.vm.Alike U.vm := by rw [hv]; exact Vm.Alike.refl _
  unfold Ev
  rw [hh]
  refine ⟨h1, h2, va_K.moved ha h3, fun w hw => va_Nw.same (NW_tab hw) hv.symm (h4 w hw), fun i q hq => vk_R.same hv (h5 i q hq), fun i hi => ?_, va_Z.moved ha h7, vx_Zq.moved ha h8, vx_Zq.moved ha h9, va_X.moved ha h10, h11, fun w hw => va_Nw.same (XW_tab hw) hv.symm (h12 w hw), Nc_moved ha h13, va_Zq.moved ha h14⟩
  obtain ⟨q1, q2, q3, q4⟩ := h6 i hi
  exact ⟨va_O.moved ha q1, va_OF.moved ha q2, va_OF.moved ha q3, va_T.moved ha q4⟩
/-- a body's context -/
def Cx (G : Gx) (md : MD) (p : Program) (s : State) (m : MethodId) (args : Array Value) (meth : Method) (c : Code) (n0 : Nat) : Prop :=
  p.tables.exec = Jvm.exec ∧ c.code = mB md ∧ c.maxLocals = mL md ∧ meth.sig.returnType = mR md ∧ s.vm.findClass (mY md).cls = some m.cls ∧ (∀ w ∈ mWs md, w.before args s = true) ∧ meth.locks = false ∧ c.exceptionTable.toList = tableOf (mH md) ∧ meth.name = (mY md).name ∧ Ev G s ∧ g_b G + n0 ≤ s.heap.size
def rmD (d K S : Nat) : Room := { frames := d + 10, cells := K, slots := S, locals := 64 * d + 256 }
/-- THE JUDGEMENT: from this pc, these locals, this stack, this state, the method comes to its end with Q -/
def V (G : Gx) (md : MD) (d K S k sl pc : Nat) (lv : List (Nat × Value)) (st : List Value) (n : Nat) (I : FI) (R : FR) (J : FJ) (Q : Po) : Prop :=
  ∀ (p : Program) (e : Env) (s : State) (m : MethodId) (args : Array Value) (below : List Frame) (meth : Method) (c : Code) (n0 : Nat), Cx G md p s m args meth c n0 →
  ∀ (H : Heap) (locs : List Loc) (ls : Array Slot), Rp G n I R J H → (n < NT → s.heap.size + k ≤ g_b G + n) → va_S (gA G) s.heap H locs → lv_has ls (mL md) lv →
  W p (g_l G) e (rmD d K S) s m args below meth c H locs k sl (vx_MQ below (qc G Q n0 K) (xc G Q) args s K S (gA G)) (F0 m pc ls st)
/-- a call of a method, from its entry -/
def Cc (G : Gx) (md : MD) (d K S : Nat) (as : List Value) (n : Nat) (I : FI) (R : FR) (J : FJ) (Q : Po) : Prop := V G md d K S 0 0 0 (lv_args 0 as) [] n I R J Q
def pc0 (G : Gx) (as : List Value) (n : Nat) (I : FI) (R : FR) (J : FJ) : Array Value → State → Prop := fun v U => v = as.toArray ∧ Ev G U ∧ Rp G n I R J U.heap ∧ (n < NT → U.heap.size = g_b G + n)
theorem V.mono {G : Gx} {md : MD} {d K S k sl pc : Nat} {lv : List (Nat × Value)} {st : List Value} {n : Nat} {I : FI} {R : FR} {J : FJ} {Q Q' : Po} (h : V G md d K S k sl pc lv st n I R J Q) (hq : ∀ o n I R J, Q o n I R J → Q' o n I R J) : V G md d K S k sl pc lv st n I R J Q' := by
  intro p e s m args below meth c n0 C H locs ls hR hz hS hl T hT X
  obtain ⟨t, a1, o, b1, b2, b3⟩ := h p e s m args below meth c n0 C H locs ls hR hz hS hl T hT X
  refine ⟨t, a1, o, b1, b2, ?_⟩
  rcases b3 with ⟨⟨v, n', I', R', J', q1, q2, q3⟩, q4⟩ | ⟨q, q1, E, ce, L, ⟨kd, n', I', R', J', q2, q3, q4⟩, q5⟩
  · exact Or.inl ⟨⟨v, n', I', R', J', q1, hq _ _ _ _ _ q2, q3⟩, q4⟩
  · exact Or.inr ⟨q, q1, E, ce, L, ⟨kd, n', I', R', J', q2, hq _ _ _ _ _ q3, q4⟩, q5⟩
theorem pc0_blind {G : Gx} {as : List Value} {n : Nat} {I : FI} {R : FR} {J : FJ} : FrameBlind (pc0 G as n I R J) := fun a U g mk q => ⟨q.1, Ev.same (u := U) (U := U.calling g mk a) q.2.1 rfl rfl, q.2.2⟩
set_option maxHeartbeats 1000000 in
theorem Cc.met {G : Gx} {md : MD} {d K S : Nat} {as : List Value} {n : Nat} {I : FI} {R : FR} {J : FJ} {Q : Po} (hn : plainName (mY md).cls = true) (hL : (lg_sl as).length ≤ mL md) (h : Cc G md d K S as n I R J Q) :
    vx_Met (g_l G) (mY md) (mWs md) (rmD d K S) (pc0 G as n I R J) (qc G Q n K) (xc G Q) K S (gA G) := by
  by_cases hh : mH md = []
  · refine vx_ofW (cc := mB md) (maxL := mL md) (ret := mR md) (ws' := TSg) hn (by unfold mWs mW; rw [if_pos hh]) ?_
    intro p e s m args below meth c s₁ B hml ht hv
    obtain ⟨rfl, hE, hR, hz⟩ := hv
    have hl := lv_entry as (n := mL md) hL
    rw [lg_entry_eq]
    refine h p e s m _ below meth c n ⟨B.exec, B.bytes, hml, B.returns, findClass_of_methodNamed B.named, atoms_spec (ws := mWs md) B.pre, B.notSynchronized, ?_, (name_of_methodNamed B.named B.method).1, hE, hR.2⟩ s.heap [] _ hR (fun q => Nat.le_of_eq (hz q)) va_S.rf hl
    rw [hh]
    cases hc : c.exceptionTable.toList with
    | nil => rfl
    | cons x xs => exact absurd (ht x (by rw [hc]; exact List.mem_cons_self)) (fun z => z)
  · refine vx_ofWH (cc := mB md) (maxL := mL md) (ret := mR md) (hh := mH md) (ws' := TSg) hn (by unfold mWs mW; rw [if_neg hh]) ?_
    intro p e s m args below meth c s₁ B hml hv
    obtain ⟨rfl, hE, hR, hz⟩ := hv
    have hl := lv_entry as (n := mL md) hL
    rw [lg_entry_eq]
    have hts := atoms_spec (ws := mWs md) B.pre
    refine h p e s m _ below meth c n ⟨B.exec, B.bytes, hml, B.returns, findClass_of_methodNamed B.named, hts, B.notSynchronized, ?_, (name_of_methodNamed B.named B.method).1, hE, hR.2⟩ s.heap [] _ hR (fun q => Nat.le_of_eq (hz q)) va_S.rf hl
    have h1 : (Cond.codeWith (mY md) (mB md) (mL md) (mR md) (mH md)).before as.toArray s = true := by
      have h2 := hts (mW md) List.mem_cons_self
      unfold mW at h2
      rw [if_neg hh] at h2
      exact h2
    exact vx_table (x := mY md) B h1
