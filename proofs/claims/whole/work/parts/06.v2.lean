section VL
variable {p : Program} {l : Launch} {e : Env} {R : Room} {s : State} {m : MethodId} {args : Array Value} {below : List Frame} {meth : Method} {c : Code} {H : Heap} {locs : List Loc} {cells slots : Nat} {Q : State → Prop} {cc : ByteArray} {pc : Nat} {ls : Array Slot} {rest : List Value}
theorem va_ldcSw0 (hexec : p.tables.exec = Jvm.exec) (hb : c.code = cc) {own tx : String} {index q : Nat} (hown : s.vm.findClass own = some m.cls) (hZ : vk_R own index tx q s) (hdg : decode cc pc = .ok (.ldc_w index, 3)) (k : W p l e R s m args below meth c H locs cells slots Q (F0 m (pc + 3) ls (.ref q :: rest))) : W p l e R s m args below meth c H locs cells slots Q (F0 m pc ls rest) := by
  intro T hT X
  obtain ⟨t, a1, b1⟩ := k T hT X
  exact ⟨t, X.ldcStringW hexec hown (text := tx) (a := q) hZ.1 hZ.2 (g := F0 m pc ls rest) rfl (by rw [hb]; exact hdg) t a1, b1⟩
end VL
section VR
variable {G : Gx} {md : MD} {d K S k sl pc : Nat} {lv : List (Nat × Value)} {rest : List Value} {n : Nat} {I : FI} {R : FR} {J : FJ} {Q : Po}

theorem V_iadd (pc' : Nat) {x y : Int32} (hd : decode (mB md) pc = .ok (.iadd, 1)) (hp : pc + 1 = pc') (kk : V G md d K S k sl pc' lv (.int (x + y) :: rest) n I R J Q) : V G md d K S k sl pc lv (.int y :: .int x :: rest) n I R J Q := by
  subst hp
  exact fun p e s m args below meth c n0 C H locs ls hR hz hS hl => lv_iadd C.1 C.2.1  hd  (kk p e s m args below meth c n0 C H locs ls hR hz hS hl)
theorem V_isub (pc' : Nat) {x y : Int32} (hd : decode (mB md) pc = .ok (.isub, 1)) (hp : pc + 1 = pc') (kk : V G md d K S k sl pc' lv (.int (x - y) :: rest) n I R J Q) : V G md d K S k sl pc lv (.int y :: .int x :: rest) n I R J Q := by
  subst hp
  exact fun p e s m args below meth c n0 C H locs ls hR hz hS hl => lv_isub C.1 C.2.1  hd  (kk p e s m args below meth c n0 C H locs ls hR hz hS hl)
theorem V_imul (pc' : Nat) {x y : Int32} (hd : decode (mB md) pc = .ok (.imul, 1)) (hp : pc + 1 = pc') (kk : V G md d K S k sl pc' lv (.int (x * y) :: rest) n I R J Q) : V G md d K S k sl pc lv (.int y :: .int x :: rest) n I R J Q := by
  subst hp
  exact fun p e s m args below meth c n0 C H locs ls hR hz hS hl => lv_imul C.1 C.2.1  hd  (kk p e s m args below meth c n0 C H locs ls hR hz hS hl)
theorem V_iand (pc' : Nat) {x y : Int32} (hd : decode (mB md) pc = .ok (.iand, 1)) (hp : pc + 1 = pc') (kk : V G md d K S k sl pc' lv (.int (x &&& y) :: rest) n I R J Q) : V G md d K S k sl pc lv (.int y :: .int x :: rest) n I R J Q := by
  subst hp
  exact fun p e s m args below meth c n0 C H locs ls hR hz hS hl => lv_iand C.1 C.2.1  hd  (kk p e s m args below meth c n0 C H locs ls hR hz hS hl)
theorem V_ior (pc' : Nat) {x y : Int32} (hd : decode (mB md) pc = .ok (.ior, 1)) (hp : pc + 1 = pc') (kk : V G md d K S k sl pc' lv (.int (x ||| y) :: rest) n I R J Q) : V G md d K S k sl pc lv (.int y :: .int x :: rest) n I R J Q := by
  subst hp
  exact fun p e s m args below meth c n0 C H locs ls hR hz hS hl => lv_ior C.1 C.2.1  hd  (kk p e s m args below meth c n0 C H locs ls hR hz hS hl)
theorem V_ixor (pc' : Nat) {x y : Int32} (hd : decode (mB md) pc = .ok (.ixor, 1)) (hp : pc + 1 = pc') (kk : V G md d K S k sl pc' lv (.int (x ^^^ y) :: rest) n I R J Q) : V G md d K S k sl pc lv (.int y :: .int x :: rest) n I R J Q := by
  subst hp
  exact fun p e s m args below meth c n0 C H locs ls hR hz hS hl => lv_ixor C.1 C.2.1  hd  (kk p e s m args below meth c n0 C H locs ls hR hz hS hl)
theorem V_ishl (pc' : Nat) {x y : Int32} (hd : decode (mB md) pc = .ok (.ishl, 1)) (hp : pc + 1 = pc') (kk : V G md d K S k sl pc' lv (.int (x <<< (y &&& 31)) :: rest) n I R J Q) : V G md d K S k sl pc lv (.int y :: .int x :: rest) n I R J Q := by
  subst hp
  exact fun p e s m args below meth c n0 C H locs ls hR hz hS hl => lv_ishl C.1 C.2.1  hd  (kk p e s m args below meth c n0 C H locs ls hR hz hS hl)
theorem V_ishr (pc' : Nat) {x y : Int32} (hd : decode (mB md) pc = .ok (.ishr, 1)) (hp : pc + 1 = pc') (kk : V G md d K S k sl pc' lv (.int (x >>> (y &&& 31)) :: rest) n I R J Q) : V G md d K S k sl pc lv (.int y :: .int x :: rest) n I R J Q := by
  subst hp
  exact fun p e s m args below meth c n0 C H locs ls hR hz hS hl => lv_ishr C.1 C.2.1  hd  (kk p e s m args below meth c n0 C H locs ls hR hz hS hl)
theorem V_idiv (pc' : Nat) {x y : Int32} (hne : ¬ y = 0) (hd : decode (mB md) pc = .ok (.idiv, 1)) (hp : pc + 1 = pc') (kk : V G md d K S k sl pc' lv (.int (x / y) :: rest) n I R J Q) : V G md d K S k sl pc lv (.int y :: .int x :: rest) n I R J Q := by
  subst hp
  exact fun p e s m args below meth c n0 C H locs ls hR hz hS hl => lv_idiv C.1 C.2.1  hd hne (kk p e s m args below meth c n0 C H locs ls hR hz hS hl)
theorem V_irem (pc' : Nat) {x y : Int32} (hne : ¬ y = 0) (hd : decode (mB md) pc = .ok (.irem, 1)) (hp : pc + 1 = pc') (kk : V G md d K S k sl pc' lv (.int (x - x / y * y) :: rest) n I R J Q) : V G md d K S k sl pc lv (.int y :: .int x :: rest) n I R J Q := by
  subst hp
  exact fun p e s m args below meth c n0 C H locs ls hR hz hS hl => lv_irem C.1 C.2.1  hd hne (kk p e s m args below meth c n0 C H locs ls hR hz hS hl)
theorem V_iushr (pc' : Nat) {x y : Int32} (hd : decode (mB md) pc = .ok (.iushr, 1)) (hp : pc + 1 = pc') (kk : V G md d K S k sl pc' lv (.int ((x.toUInt32 >>> (y.toUInt32 &&& Int32.toUInt32 31)).toInt32) :: rest) n I R J Q) : V G md d K S k sl pc lv (.int y :: .int x :: rest) n I R J Q := by
  subst hp
  exact fun p e s m args below meth c n0 C H locs ls hR hz hS hl => lv_iushr C.1 C.2.1  hd rfl (kk p e s m args below meth c n0 C H locs ls hR hz hS hl)
theorem V_ineg (pc' : Nat) {x : Int32} (hd : decode (mB md) pc = .ok (.ineg, 1)) (hp : pc + 1 = pc') (kk : V G md d K S k sl pc' lv (.int (-x) :: rest) n I R J Q) : V G md d K S k sl pc lv (.int x :: rest) n I R J Q := by
  subst hp
  exact fun p e s m args below meth c n0 C H locs ls hR hz hS hl => lv_ineg C.1 C.2.1  hd  (kk p e s m args below meth c n0 C H locs ls hR hz hS hl)
theorem V_i2l (pc' : Nat) {x : Int32} (hd : decode (mB md) pc = .ok (.i2l, 1)) (hp : pc + 1 = pc') (kk : V G md d K S k sl pc' lv (.long (x.toInt64) :: rest) n I R J Q) : V G md d K S k sl pc lv (.int x :: rest) n I R J Q := by
  subst hp
  exact fun p e s m args below meth c n0 C H locs ls hR hz hS hl => lv_i2l C.1 C.2.1  hd rfl (kk p e s m args below meth c n0 C H locs ls hR hz hS hl)
theorem V_i2b (pc' : Nat) {x : Int32} (hd : decode (mB md) pc = .ok (.i2b, 1)) (hp : pc + 1 = pc') (kk : V G md d K S k sl pc' lv (.int (x.toInt8.toInt32) :: rest) n I R J Q) : V G md d K S k sl pc lv (.int x :: rest) n I R J Q := by
  subst hp
  exact fun p e s m args below meth c n0 C H locs ls hR hz hS hl => lv_i2b C.1 C.2.1  hd rfl (kk p e s m args below meth c n0 C H locs ls hR hz hS hl)
theorem V_i2c (pc' : Nat) {x : Int32} (hd : decode (mB md) pc = .ok (.i2c, 1)) (hp : pc + 1 = pc') (kk : V G md d K S k sl pc' lv (.int ((x.toUInt32 % 65536).toInt32) :: rest) n I R J Q) : V G md d K S k sl pc lv (.int x :: rest) n I R J Q := by
  subst hp
  exact fun p e s m args below meth c n0 C H locs ls hR hz hS hl => lv_i2c C.1 C.2.1  hd rfl (kk p e s m args below meth c n0 C H locs ls hR hz hS hl)
theorem V_ladd (pc' : Nat) {x y : Int64} (hd : decode (mB md) pc = .ok (.ladd, 1)) (hp : pc + 1 = pc') (kk : V G md d K S k sl pc' lv (.long (x + y) :: rest) n I R J Q) : V G md d K S k sl pc lv (.long y :: .long x :: rest) n I R J Q := by
  subst hp
  exact fun p e s m args below meth c n0 C H locs ls hR hz hS hl => lv_ladd C.1 C.2.1  hd  (kk p e s m args below meth c n0 C H locs ls hR hz hS hl)
theorem V_lmul (pc' : Nat) {x y : Int64} (hd : decode (mB md) pc = .ok (.lmul, 1)) (hp : pc + 1 = pc') (kk : V G md d K S k sl pc' lv (.long (x * y) :: rest) n I R J Q) : V G md d K S k sl pc lv (.long y :: .long x :: rest) n I R J Q := by
  subst hp
  exact fun p e s m args below meth c n0 C H locs ls hR hz hS hl => lv_lmul C.1 C.2.1  hd  (kk p e s m args below meth c n0 C H locs ls hR hz hS hl)
theorem V_ldiv (pc' : Nat) {x y : Int64} (hne : ¬ y = 0) (hd : decode (mB md) pc = .ok (.ldiv, 1)) (hp : pc + 1 = pc') (kk : V G md d K S k sl pc' lv (.long (x / y) :: rest) n I R J Q) : V G md d K S k sl pc lv (.long y :: .long x :: rest) n I R J Q := by
  subst hp
  exact fun p e s m args below meth c n0 C H locs ls hR hz hS hl => lv_ldiv C.1 C.2.1  hd hne (kk p e s m args below meth c n0 C H locs ls hR hz hS hl)
theorem V_lrem (pc' : Nat) {x y : Int64} (hne : ¬ y = 0) (hd : decode (mB md) pc = .ok (.lrem, 1)) (hp : pc + 1 = pc') (kk : V G md d K S k sl pc' lv (.long (x - x / y * y) :: rest) n I R J Q) : V G md d K S k sl pc lv (.long y :: .long x :: rest) n I R J Q := by
  subst hp
  exact fun p e s m args below meth c n0 C H locs ls hR hz hS hl => lv_lrem C.1 C.2.1  hd hne (kk p e s m args below meth c n0 C H locs ls hR hz hS hl)
theorem V_lcmp (pc' : Nat) {x y : Int64} (hd : decode (mB md) pc = .ok (.lcmp, 1)) (hp : pc + 1 = pc') (kk : V G md d K S k sl pc' lv (.int (lg_cmp x y) :: rest) n I R J Q) : V G md d K S k sl pc lv (.long y :: .long x :: rest) n I R J Q := by
  subst hp
  exact fun p e s m args below meth c n0 C H locs ls hR hz hS hl => W.lcmp C.1 C.2.1  hd  (kk p e s m args below meth c n0 C H locs ls hR hz hS hl)
theorem V_iconst (pc' : Nat) {z : Int} (v : Int32) (hv : Int32.ofInt z = v) (hd : decode (mB md) pc = .ok (.iconst z, 1)) (hp : pc + 1 = pc') (kk : V G md d K S k sl pc' lv (.int v :: rest) n I R J Q) : V G md d K S k sl pc lv (rest) n I R J Q := by
  subst hp
  exact fun p e s m args below meth c n0 C H locs ls hR hz hS hl => lv_iconst C.1 C.2.1  hd hv (kk p e s m args below meth c n0 C H locs ls hR hz hS hl)
theorem V_bipush (pc' : Nat) {z : Int} (v : Int32) (hv : (Int8.ofInt z).toInt32 = v) (hd : decode (mB md) pc = .ok (.bipush z, 2)) (hp : pc + 2 = pc') (kk : V G md d K S k sl pc' lv (.int v :: rest) n I R J Q) : V G md d K S k sl pc lv (rest) n I R J Q := by
  subst hp
  exact fun p e s m args below meth c n0 C H locs ls hR hz hS hl => lv_bipush C.1 C.2.1  hd hv (kk p e s m args below meth c n0 C H locs ls hR hz hS hl)
theorem V_sipush (pc' : Nat) {z : Int} (v : Int32) (hv : (Int16.ofInt z).toInt32 = v) (hd : decode (mB md) pc = .ok (.sipush z, 3)) (hp : pc + 3 = pc') (kk : V G md d K S k sl pc' lv (.int v :: rest) n I R J Q) : V G md d K S k sl pc lv (rest) n I R J Q := by
  subst hp
  exact fun p e s m args below meth c n0 C H locs ls hR hz hS hl => lv_sipush C.1 C.2.1  hd hv (kk p e s m args below meth c n0 C H locs ls hR hz hS hl)
theorem V_lconst (pc' : Nat) {z : Fin 2} (v : Int64) (hv : Int64.ofNat (z : Nat) = v) (hd : decode (mB md) pc = .ok (.lconst z, 1)) (hp : pc + 1 = pc') (kk : V G md d K S k sl pc' lv (.long v :: rest) n I R J Q) : V G md d K S k sl pc lv (rest) n I R J Q := by
  subst hp
  exact fun p e s m args below meth c n0 C H locs ls hR hz hS hl => lv_lconst C.1 C.2.1  hd hv (kk p e s m args below meth c n0 C H locs ls hR hz hS hl)
theorem V_dup (pc' : Nat) {va : Value} (hv : va.category = 1) (hd : decode (mB md) pc = .ok (.dup, 1)) (hp : pc + 1 = pc') (kk : V G md d K S k sl pc' lv (va :: va :: rest) n I R J Q) : V G md d K S k sl pc lv (va :: rest) n I R J Q := by
  subst hp
  exact fun p e s m args below meth c n0 C H locs ls hR hz hS hl => lv_dup C.1 C.2.1  hd hv (kk p e s m args below meth c n0 C H locs ls hR hz hS hl)
theorem V_pop (pc' : Nat) {va : Value} (hv : va.category = 1) (hd : decode (mB md) pc = .ok (.pop, 1)) (hp : pc + 1 = pc') (kk : V G md d K S k sl pc' lv (rest) n I R J Q) : V G md d K S k sl pc lv (va :: rest) n I R J Q := by
  subst hp
  exact fun p e s m args below meth c n0 C H locs ls hR hz hS hl => lv_pop C.1 C.2.1  hd hv (kk p e s m args below meth c n0 C H locs ls hR hz hS hl)
theorem V_dup2 (pc' : Nat) {va vb : Value} (ha : va.category = 1) (hb : vb.category = 1) (hd : decode (mB md) pc = .ok (.dup2, 1)) (hp : pc + 1 = pc') (kk : V G md d K S k sl pc' lv (va :: vb :: va :: vb :: rest) n I R J Q) : V G md d K S k sl pc lv (va :: vb :: rest) n I R J Q := by
  subst hp
  exact fun p e s m args below meth c n0 C H locs ls hR hz hS hl => lv_dup2_11 C.1 C.2.1  hd ha hb (kk p e s m args below meth c n0 C H locs ls hR hz hS hl)
theorem V_iload_n (pc' : Nat) {z : Fin 4} {i : Nat} {x : Int32} (q : Nat) (hq : lv[q]? = some (i, .int x)) (hi : (z : Nat) = i) (hd : decode (mB md) pc = .ok (.iload_n z, 1)) (hp : pc + 1 = pc') (kk : V G md d K S k sl pc' lv (.int x :: rest) n I R J Q) : V G md d K S k sl pc lv (rest) n I R J Q := by
  subst hp
  exact fun p e s m args below meth c n0 C H locs ls hR hz hS hl => lv_iload_n C.1 C.2.1  hd hi (lv_at hl q hq) (kk p e s m args below meth c n0 C H locs ls hR hz hS hl)
theorem V_iload (pc' : Nat) {i : Nat} {x : Int32} (q : Nat) (hq : lv[q]? = some (i, .int x)) (hd : decode (mB md) pc = .ok (.iload i, 2)) (hp : pc + 2 = pc') (kk : V G md d K S k sl pc' lv (.int x :: rest) n I R J Q) : V G md d K S k sl pc lv (rest) n I R J Q := by
  subst hp
  exact fun p e s m args below meth c n0 C H locs ls hR hz hS hl => lv_iload C.1 C.2.1  hd (lv_at hl q hq) (kk p e s m args below meth c n0 C H locs ls hR hz hS hl)
theorem V_lload_n (pc' : Nat) {z : Fin 4} {i : Nat} {x : Int64} (q : Nat) (hq : lv[q]? = some (i, .long x)) (hi : (z : Nat) = i) (hd : decode (mB md) pc = .ok (.lload_n z, 1)) (hp : pc + 1 = pc') (kk : V G md d K S k sl pc' lv (.long x :: rest) n I R J Q) : V G md d K S k sl pc lv (rest) n I R J Q := by
  subst hp
  exact fun p e s m args below meth c n0 C H locs ls hR hz hS hl => lv_lload_n C.1 C.2.1  hd hi (lv_at hl q hq) (kk p e s m args below meth c n0 C H locs ls hR hz hS hl)
theorem V_lload (pc' : Nat) {i : Nat} {x : Int64} (q : Nat) (hq : lv[q]? = some (i, .long x)) (hd : decode (mB md) pc = .ok (.lload i, 2)) (hp : pc + 2 = pc') (kk : V G md d K S k sl pc' lv (.long x :: rest) n I R J Q) : V G md d K S k sl pc lv (rest) n I R J Q := by
  subst hp
  exact fun p e s m args below meth c n0 C H locs ls hR hz hS hl => lv_lload C.1 C.2.1  hd (lv_at hl q hq) (kk p e s m args below meth c n0 C H locs ls hR hz hS hl)
theorem V_aload_n (pc' : Nat) {z : Fin 4} {i : Nat} {v : Value} (q : Nat) (hq : lv[q]? = some (i, v)) (a : Nat) (ha : v = .ref a) (hi : (z : Nat) = i) (hd : decode (mB md) pc = .ok (.aload_n z, 1)) (hp : pc + 1 = pc') (kk : V G md d K S k sl pc' lv (v :: rest) n I R J Q) : V G md d K S k sl pc lv rest n I R J Q := by
  subst hp; subst ha
  exact fun p e s m args below meth c n0 C H locs ls hR hz hS hl => lv_aload_n C.1 C.2.1 hd hi (lv_at hl q hq) (kk p e s m args below meth c n0 C H locs ls hR hz hS hl)
theorem V_aload (pc' : Nat) {i : Nat} {v : Value} (q : Nat) (hq : lv[q]? = some (i, v)) (a : Nat) (ha : v = .ref a)  (hd : decode (mB md) pc = .ok (.aload i, 2)) (hp : pc + 2 = pc') (kk : V G md d K S k sl pc' lv (v :: rest) n I R J Q) : V G md d K S k sl pc lv rest n I R J Q := by
  subst hp; subst ha
  exact fun p e s m args below meth c n0 C H locs ls hR hz hS hl => lv_aload C.1 C.2.1 hd  (lv_at hl q hq) (kk p e s m args below meth c n0 C H locs ls hR hz hS hl)
theorem V_istore_n (pc' : Nat) {z : Fin 4} {i : Nat} {x : Int32}  (lv' : List (Nat × Value)) (hn : i < mL md) (hv : (i, Value.int x) :: lv.filter (fun q => !(q.1 == i) && !(q.1 + 1 == i && q.2.category == 2)) = lv') (hi : (z : Nat) = i) (hd : decode (mB md) pc = .ok (.istore_n z, 1)) (hp : pc + 1 = pc') (kk : V G md d K S k sl pc' lv' rest n I R J Q) : V G md d K S k sl pc lv (.int x :: rest) n I R J Q := by
  subst hp
  exact fun p e s m args below meth c n0 C H locs ls hR hz hS hl => lv_istore_n C.1 C.2.1 hd hi hl hn hv (fun ls' hl' => kk p e s m args below meth c n0 C H locs ls' hR hz hS hl')
theorem V_istore (pc' : Nat) {i : Nat} {x : Int32}  (lv' : List (Nat × Value)) (hn : i < mL md) (hv : (i, Value.int x) :: lv.filter (fun q => !(q.1 == i) && !(q.1 + 1 == i && q.2.category == 2)) = lv')  (hd : decode (mB md) pc = .ok (.istore i, 2)) (hp : pc + 2 = pc') (kk : V G md d K S k sl pc' lv' rest n I R J Q) : V G md d K S k sl pc lv (.int x :: rest) n I R J Q := by
  subst hp
  exact fun p e s m args below meth c n0 C H locs ls hR hz hS hl => lv_istore C.1 C.2.1 hd  hl hn hv (fun ls' hl' => kk p e s m args below meth c n0 C H locs ls' hR hz hS hl')
theorem V_astore_n (pc' : Nat) {z : Fin 4} {i : Nat} {v : Value} (x : Nat) (ha : v = .ref x) (lv' : List (Nat × Value)) (hn : i < mL md) (hv : (i, v) :: lv.filter (fun q => !(q.1 == i) && !(q.1 + 1 == i && q.2.category == 2)) = lv') (hi : (z : Nat) = i) (hd : decode (mB md) pc = .ok (.astore_n z, 1)) (hp : pc + 1 = pc') (kk : V G md d K S k sl pc' lv' rest n I R J Q) : V G md d K S k sl pc lv (v :: rest) n I R J Q := by
  subst hp; subst ha
  exact fun p e s m args below meth c n0 C H locs ls hR hz hS hl => lv_astore_n C.1 C.2.1 hd hi hl hn hv (fun ls' hl' => kk p e s m args below meth c n0 C H locs ls' hR hz hS hl')
theorem V_astore (pc' : Nat) {i : Nat} {v : Value} (x : Nat) (ha : v = .ref x) (lv' : List (Nat × Value)) (hn : i < mL md) (hv : (i, v) :: lv.filter (fun q => !(q.1 == i) && !(q.1 + 1 == i && q.2.category == 2)) = lv')  (hd : decode (mB md) pc = .ok (.astore i, 2)) (hp : pc + 2 = pc') (kk : V G md d K S k sl pc' lv' rest n I R J Q) : V G md d K S k sl pc lv (v :: rest) n I R J Q := by
  subst hp; subst ha
  exact fun p e s m args below meth c n0 C H locs ls hR hz hS hl => lv_astore C.1 C.2.1 hd  hl hn hv (fun ls' hl' => kk p e s m args below meth c n0 C H locs ls' hR hz hS hl')
theorem V_lstore_n (pc' : Nat) {z : Fin 4} {i : Nat} {x : Int64} (lv' : List (Nat × Value)) (hn : i + 1 < mL md) (hv : (i, Value.long x) :: lv.filter (fun q => !(q.1 == i) && (!(q.1 == i + 1) && !(q.1 + 1 == i && q.2.category == 2))) = lv') (hi : (z : Nat) = i) (hd : decode (mB md) pc = .ok (.lstore_n z, 1)) (hp : pc + 1 = pc') (kk : V G md d K S k sl pc' lv' rest n I R J Q) : V G md d K S k sl pc lv (.long x :: rest) n I R J Q := by
  subst hp
  exact fun p e s m args below meth c n0 C H locs ls hR hz hS hl => lv_lstore_n C.1 C.2.1 hd hi hl hn hv (fun ls' hl' => kk p e s m args below meth c n0 C H locs ls' hR hz hS hl')
theorem V_lstore (pc' : Nat) {i : Nat} {x : Int64} (lv' : List (Nat × Value)) (hn : i + 1 < mL md) (hv : (i, Value.long x) :: lv.filter (fun q => !(q.1 == i) && (!(q.1 == i + 1) && !(q.1 + 1 == i && q.2.category == 2))) = lv')  (hd : decode (mB md) pc = .ok (.lstore i, 2)) (hp : pc + 2 = pc') (kk : V G md d K S k sl pc' lv' rest n I R J Q) : V G md d K S k sl pc lv (.long x :: rest) n I R J Q := by
  subst hp
  exact fun p e s m args below meth c n0 C H locs ls hR hz hS hl => lv_lstore C.1 C.2.1 hd  hl hn hv (fun ls' hl' => kk p e s m args below meth c n0 C H locs ls' hR hz hS hl')
theorem V_iinc (pc' : Nat) {i : Nat} {z : Int} {x : Int32} (q : Nat) (hq : lv[q]? = some (i, .int x)) (v : Int32) (lv' : List (Nat × Value)) (hx : x + Int32.ofInt z = v) (hn : i < mL md) (hv : (i, Value.int v) :: lv.filter (fun q => !(q.1 == i) && !(q.1 + 1 == i && q.2.category == 2)) = lv') (hd : decode (mB md) pc = .ok (.iinc i z, 3)) (hp : pc + 3 = pc') (kk : V G md d K S k sl pc' lv' rest n I R J Q) : V G md d K S k sl pc lv rest n I R J Q := by
  subst hp
  exact fun p e s m args below meth c n0 C H locs ls hR hz hS hl => lv_iinc C.1 C.2.1 hd hl hq hx hn hv (fun ls' hl' => kk p e s m args below meth c n0 C H locs ls' hR hz hS hl')
theorem V_icmp_eq (tgt pc' : Nat) {x y : Int32} {off : Int} (ht : (pc : Int) + off = (tgt : Int)) (hd : decode (mB md) pc = .ok (.if_icmp .eq off, 3)) (hp : pc + 3 = pc') (kt : x = y → V G md d K S k sl tgt lv rest n I R J Q) (kf : ¬ x = y → V G md d K S k sl pc' lv rest n I R J Q) : V G md d K S k sl pc lv (.int y :: .int x :: rest) n I R J Q := by
  subst hp
  exact fun p e s m args below meth c n0 C H locs ls hR hz hS hl => lv_icmp_eq C.1 C.2.1 hd ht (fun z => kt z p e s m args below meth c n0 C H locs ls hR hz hS hl) (fun z => kf z p e s m args below meth c n0 C H locs ls hR hz hS hl)
theorem V_icmp_ne (tgt pc' : Nat) {x y : Int32} {off : Int} (ht : (pc : Int) + off = (tgt : Int)) (hd : decode (mB md) pc = .ok (.if_icmp .ne off, 3)) (hp : pc + 3 = pc') (kt : ¬ x = y → V G md d K S k sl tgt lv rest n I R J Q) (kf : x = y → V G md d K S k sl pc' lv rest n I R J Q) : V G md d K S k sl pc lv (.int y :: .int x :: rest) n I R J Q := by
  subst hp
  exact fun p e s m args below meth c n0 C H locs ls hR hz hS hl => lv_icmp_ne C.1 C.2.1 hd ht (fun z => kt z p e s m args below meth c n0 C H locs ls hR hz hS hl) (fun z => kf z p e s m args below meth c n0 C H locs ls hR hz hS hl)
theorem V_icmp_lt (tgt pc' : Nat) {x y : Int32} {off : Int} (ht : (pc : Int) + off = (tgt : Int)) (hd : decode (mB md) pc = .ok (.if_icmp .lt off, 3)) (hp : pc + 3 = pc') (kt : x < y → V G md d K S k sl tgt lv rest n I R J Q) (kf : ¬ x < y → V G md d K S k sl pc' lv rest n I R J Q) : V G md d K S k sl pc lv (.int y :: .int x :: rest) n I R J Q := by
  subst hp
  exact fun p e s m args below meth c n0 C H locs ls hR hz hS hl => lv_icmp_lt C.1 C.2.1 hd ht (fun z => kt z p e s m args below meth c n0 C H locs ls hR hz hS hl) (fun z => kf z p e s m args below meth c n0 C H locs ls hR hz hS hl)
theorem V_icmp_ge (tgt pc' : Nat) {x y : Int32} {off : Int} (ht : (pc : Int) + off = (tgt : Int)) (hd : decode (mB md) pc = .ok (.if_icmp .ge off, 3)) (hp : pc + 3 = pc') (kt : y ≤ x → V G md d K S k sl tgt lv rest n I R J Q) (kf : ¬ y ≤ x → V G md d K S k sl pc' lv rest n I R J Q) : V G md d K S k sl pc lv (.int y :: .int x :: rest) n I R J Q := by
  subst hp
  exact fun p e s m args below meth c n0 C H locs ls hR hz hS hl => lv_icmp_ge C.1 C.2.1 hd ht (fun z => kt z p e s m args below meth c n0 C H locs ls hR hz hS hl) (fun z => kf z p e s m args below meth c n0 C H locs ls hR hz hS hl)
theorem V_icmp_gt (tgt pc' : Nat) {x y : Int32} {off : Int} (ht : (pc : Int) + off = (tgt : Int)) (hd : decode (mB md) pc = .ok (.if_icmp .gt off, 3)) (hp : pc + 3 = pc') (kt : y < x → V G md d K S k sl tgt lv rest n I R J Q) (kf : ¬ y < x → V G md d K S k sl pc' lv rest n I R J Q) : V G md d K S k sl pc lv (.int y :: .int x :: rest) n I R J Q := by
  subst hp
  exact fun p e s m args below meth c n0 C H locs ls hR hz hS hl => lv_icmp_gt C.1 C.2.1 hd ht (fun z => kt z p e s m args below meth c n0 C H locs ls hR hz hS hl) (fun z => kf z p e s m args below meth c n0 C H locs ls hR hz hS hl)
theorem V_icmp_le (tgt pc' : Nat) {x y : Int32} {off : Int} (ht : (pc : Int) + off = (tgt : Int)) (hd : decode (mB md) pc = .ok (.if_icmp .le off, 3)) (hp : pc + 3 = pc') (kt : x ≤ y → V G md d K S k sl tgt lv rest n I R J Q) (kf : ¬ x ≤ y → V G md d K S k sl pc' lv rest n I R J Q) : V G md d K S k sl pc lv (.int y :: .int x :: rest) n I R J Q := by
  subst hp
  exact fun p e s m args below meth c n0 C H locs ls hR hz hS hl => lv_icmp_le C.1 C.2.1 hd ht (fun z => kt z p e s m args below meth c n0 C H locs ls hR hz hS hl) (fun z => kf z p e s m args below meth c n0 C H locs ls hR hz hS hl)
theorem V_if_eq (tgt pc' : Nat) {x : Int32} {off : Int} (ht : (pc : Int) + off = (tgt : Int)) (hd : decode (mB md) pc = .ok (.ifCond .eq off, 3)) (hp : pc + 3 = pc') (kt : x = 0 → V G md d K S k sl tgt lv rest n I R J Q) (kf : ¬ x = 0 → V G md d K S k sl pc' lv rest n I R J Q) : V G md d K S k sl pc lv (.int x :: rest) n I R J Q := by
  subst hp
  exact fun p e s m args below meth c n0 C H locs ls hR hz hS hl => lv_if_eq C.1 C.2.1 hd ht (fun z => kt z p e s m args below meth c n0 C H locs ls hR hz hS hl) (fun z => kf z p e s m args below meth c n0 C H locs ls hR hz hS hl)
theorem V_if_ne (tgt pc' : Nat) {x : Int32} {off : Int} (ht : (pc : Int) + off = (tgt : Int)) (hd : decode (mB md) pc = .ok (.ifCond .ne off, 3)) (hp : pc + 3 = pc') (kt : ¬ x = 0 → V G md d K S k sl tgt lv rest n I R J Q) (kf : x = 0 → V G md d K S k sl pc' lv rest n I R J Q) : V G md d K S k sl pc lv (.int x :: rest) n I R J Q := by
  subst hp
  exact fun p e s m args below meth c n0 C H locs ls hR hz hS hl => lv_if_ne C.1 C.2.1 hd ht (fun z => kt z p e s m args below meth c n0 C H locs ls hR hz hS hl) (fun z => kf z p e s m args below meth c n0 C H locs ls hR hz hS hl)
theorem V_if_lt (tgt pc' : Nat) {x : Int32} {off : Int} (ht : (pc : Int) + off = (tgt : Int)) (hd : decode (mB md) pc = .ok (.ifCond .lt off, 3)) (hp : pc + 3 = pc') (kt : x < 0 → V G md d K S k sl tgt lv rest n I R J Q) (kf : ¬ x < 0 → V G md d K S k sl pc' lv rest n I R J Q) : V G md d K S k sl pc lv (.int x :: rest) n I R J Q := by
  subst hp
  exact fun p e s m args below meth c n0 C H locs ls hR hz hS hl => lv_if_lt C.1 C.2.1 hd ht (fun z => kt z p e s m args below meth c n0 C H locs ls hR hz hS hl) (fun z => kf z p e s m args below meth c n0 C H locs ls hR hz hS hl)
theorem V_if_ge (tgt pc' : Nat) {x : Int32} {off : Int} (ht : (pc : Int) + off = (tgt : Int)) (hd : decode (mB md) pc = .ok (.ifCond .ge off, 3)) (hp : pc + 3 = pc') (kt : 0 ≤ x → V G md d K S k sl tgt lv rest n I R J Q) (kf : ¬ 0 ≤ x → V G md d K S k sl pc' lv rest n I R J Q) : V G md d K S k sl pc lv (.int x :: rest) n I R J Q := by
  subst hp
  exact fun p e s m args below meth c n0 C H locs ls hR hz hS hl => lv_if_ge C.1 C.2.1 hd ht (fun z => kt z p e s m args below meth c n0 C H locs ls hR hz hS hl) (fun z => kf z p e s m args below meth c n0 C H locs ls hR hz hS hl)
theorem V_if_gt (tgt pc' : Nat) {x : Int32} {off : Int} (ht : (pc : Int) + off = (tgt : Int)) (hd : decode (mB md) pc = .ok (.ifCond .gt off, 3)) (hp : pc + 3 = pc') (kt : 0 < x → V G md d K S k sl tgt lv rest n I R J Q) (kf : ¬ 0 < x → V G md d K S k sl pc' lv rest n I R J Q) : V G md d K S k sl pc lv (.int x :: rest) n I R J Q := by
  subst hp
  exact fun p e s m args below meth c n0 C H locs ls hR hz hS hl => lv_if_gt C.1 C.2.1 hd ht (fun z => kt z p e s m args below meth c n0 C H locs ls hR hz hS hl) (fun z => kf z p e s m args below meth c n0 C H locs ls hR hz hS hl)
theorem V_if_le (tgt pc' : Nat) {x : Int32} {off : Int} (ht : (pc : Int) + off = (tgt : Int)) (hd : decode (mB md) pc = .ok (.ifCond .le off, 3)) (hp : pc + 3 = pc') (kt : x ≤ 0 → V G md d K S k sl tgt lv rest n I R J Q) (kf : ¬ x ≤ 0 → V G md d K S k sl pc' lv rest n I R J Q) : V G md d K S k sl pc lv (.int x :: rest) n I R J Q := by
  subst hp
  exact fun p e s m args below meth c n0 C H locs ls hR hz hS hl => lv_if_le C.1 C.2.1 hd ht (fun z => kt z p e s m args below meth c n0 C H locs ls hR hz hS hl) (fun z => kf z p e s m args below meth c n0 C H locs ls hR hz hS hl)
theorem V_goto (tgt : Nat) {off : Int} (ht : (pc : Int) + off = (tgt : Int)) (hd : decode (mB md) pc = .ok (.goto off, 3)) (kk : V G md d K S k sl tgt lv rest n I R J Q) : V G md d K S k sl pc lv rest n I R J Q :=
  fun p e s m args below meth c n0 C H locs ls hR hz hS hl => lv_goto C.1 C.2.1 hd ht (kk p e s m args below meth c n0 C H locs ls hR hz hS hl)
theorem V_tabOut (tgt : Nat) {x : Int32} {dflt lo hi : Int} {offs : Array Int} {len : Nat} (h : x.toInt < lo ∨ hi < x.toInt) (ht : (pc : Int) + dflt = (tgt : Int)) (hd : decode (mB md) pc = .ok (.tableswitch dflt lo hi offs, len)) (kk : V G md d K S k sl tgt lv rest n I R J Q) : V G md d K S k sl pc lv (.int x :: rest) n I R J Q :=
  fun p e s m args below meth c n0 C H locs ls hR hz hS hl => lv_tableOut C.1 C.2.1 hd h ht (kk p e s m args below meth c n0 C H locs ls hR hz hS hl)
theorem V_tabIn (tgt : Nat) {x : Int32} {dflt lo hi off : Int} {offs : Array Int} {len : Nat} (h1 : ¬ x.toInt < lo) (h2 : ¬ hi < x.toInt) (ho : offs[(x.toInt - lo).toNat]? = some off) (ht : (pc : Int) + off = (tgt : Int)) (hd : decode (mB md) pc = .ok (.tableswitch dflt lo hi offs, len)) (kk : V G md d K S k sl tgt lv rest n I R J Q) : V G md d K S k sl pc lv (.int x :: rest) n I R J Q :=
  fun p e s m args below meth c n0 C H locs ls hR hz hS hl => lv_tableIn C.1 C.2.1 hd h1 h2 ho ht (kk p e s m args below meth c n0 C H locs ls hR hz hS hl)
theorem V_topi {x : Int32} (kk : ∀ y : Int32, y = x → V G md d K S k sl pc lv (.int y :: rest) n I R J Q) : V G md d K S k sl pc lv (.int x :: rest) n I R J Q := kk x rfl
theorem V_ldc (pc' : Nat) {own : String} {index : Nat} (v : Int32) (ho : own = (mY md).cls) (hw : Cond.constant own index v ∈ TSg) (hd : decode (mB md) pc = .ok (.ldc index, 2)) (hp : pc + 2 = pc') (kk : V G md d K S k sl pc' lv (.int v :: rest) n I R J Q) : V G md d K S k sl pc lv rest n I R J Q := by
  subst hp; subst ho
  exact fun p e s m args below meth c n0 C H locs ls hR hz hS hl => lv_ldc C.1 C.2.1 C.2.2.2.2.1 (C.2.2.2.2.2.1 _ (List.mem_cons_of_mem _ hw)) hd (kk p e s m args below meth c n0 C H locs ls hR hz hS hl)
theorem V_ldcw (pc' : Nat) {own : String} {index : Nat} (v : Int32) (ho : own = (mY md).cls) (hw : Cond.constant own index v ∈ TSg) (hd : decode (mB md) pc = .ok (.ldc_w index, 3)) (hp : pc + 3 = pc') (kk : V G md d K S k sl pc' lv (.int v :: rest) n I R J Q) : V G md d K S k sl pc lv rest n I R J Q := by
  subst hp; subst ho
  exact fun p e s m args below meth c n0 C H locs ls hR hz hS hl => lv_ldcw C.1 C.2.1 C.2.2.2.2.1 (C.2.2.2.2.2.1 _ (List.mem_cons_of_mem _ hw)) hd (kk p e s m args below meth c n0 C H locs ls hR hz hS hl)
theorem V_ldc2 (pc' : Nat) {own : String} {index : Nat} (v : Int64) (ho : own = (mY md).cls) (hw : Cond.constantLong own index v ∈ TSg) (hd : decode (mB md) pc = .ok (.ldc2_w index, 3)) (hp : pc + 3 = pc') (kk : V G md d K S k sl pc' lv (.long v :: rest) n I R J Q) : V G md d K S k sl pc lv rest n I R J Q := by
  subst hp; subst ho
  exact fun p e s m args below meth c n0 C H locs ls hR hz hS hl => lv_ldc2 C.1 C.2.1 C.2.2.2.2.1 (C.2.2.2.2.2.1 _ (List.mem_cons_of_mem _ hw)) hd (kk p e s m args below meth c n0 C H locs ls hR hz hS hl)
theorem V_ldcS (pc' : Nat) {own tx : String} {index : Nat} (i : Nat) (ho : own = (mY md).cls) (hw : strL[i]? = some (own, index, tx)) (hd : decode (mB md) pc = .ok (.ldc index, 2)) (hp : pc + 2 = pc') (kk : V G md d K S k sl pc' lv (sr G i :: rest) n I R J Q) : V G md d K S k sl pc lv rest n I R J Q := by
  subst hp; subst ho
  exact fun p e s m args below meth c n0 C H locs ls hR hz hS hl => va_ldcS C.1 C.2.1 C.2.2.2.2.1 (C.2.2.2.2.2.2.2.2.2.1.2.2.2.2.1 i _ hw) hd (kk p e s m args below meth c n0 C H locs ls hR hz hS hl)
theorem V_ldcSw (pc' : Nat) {own tx : String} {index : Nat} (i : Nat) (ho : own = (mY md).cls) (hw : strL[i]? = some (own, index, tx)) (hd : decode (mB md) pc = .ok (.ldc_w index, 3)) (hp : pc + 3 = pc') (kk : V G md d K S k sl pc' lv (sr G i :: rest) n I R J Q) : V G md d K S k sl pc lv rest n I R J Q := by
  subst hp; subst ho
  exact fun p e s m args below meth c n0 C H locs ls hR hz hS hl => va_ldcSw0 C.1 C.2.1 C.2.2.2.2.1 (C.2.2.2.2.2.2.2.2.2.1.2.2.2.2.1 i _ hw) hd (kk p e s m args below meth c n0 C H locs ls hR hz hS hl)
/-- the ends -/
theorem V_end {a b k K n n0 : Nat} (h1 : a + k ≤ b + n) (h2 : K ≤ k) (h3 : b + n0 ≤ a) : n0 + K ≤ n := by omega
theorem V_ret_v (hr : mR md = none) (hk : k ≤ K) (hx : n < NT → K ≤ k) (hs : sl ≤ S) (hq : Q (.inl none) n I R J) (hd : decode (mB md) pc = .ok (.return_, 1)) : V G md d K S k sl pc lv [] n I R J Q :=
  fun p e s m args below meth c n0 C H locs ls hR hz hS hl => W.widen hk hs (vx_ret (W.vret C.1 C.2.1 (C.2.2.2.1.trans hr) (fun t ht _ => ⟨none, n, I, R, J, rfl, hq, by rw [ht]; exact hR, hS.F ht, fun q => V_end (hz q) (hx q) C.2.2.2.2.2.2.2.2.2.2⟩) hS.2.2 hd C.2.2.2.2.2.2.1))
theorem V_ret_i {x : Int32} {ty : FieldType} (hr : mR md = some ty) (hn : narrow ty (.int x) = .int x) (hk : k ≤ K) (hx : n < NT → K ≤ k) (hs : sl ≤ S) (hq : Q (.inl (some (.int x))) n I R J) (hd : decode (mB md) pc = .ok (.ireturn, 1)) : V G md d K S k sl pc lv [.int x] n I R J Q :=
  fun p e s m args below meth c n0 C H locs ls hR hz hS hl => W.widen hk hs (vx_ret (W.zret C.1 C.2.1 (C.2.2.2.1.trans hr) hn (fun t ht _ => ⟨some (.int x), n, I, R, J, rfl, hq, by rw [ht]; exact hR, hS.F ht, fun q => V_end (hz q) (hx q) C.2.2.2.2.2.2.2.2.2.2⟩) hS.2.2 hd C.2.2.2.2.2.2.1))
theorem V_ret_l {x : Int64} (hr : mR md = some .long) (hk : k ≤ K) (hx : n < NT → K ≤ k) (hs : sl ≤ S) (hq : Q (.inl (some (.long x))) n I R J) (hd : decode (mB md) pc = .ok (.lreturn, 1)) : V G md d K S k sl pc lv [.long x] n I R J Q :=
  fun p e s m args below meth c n0 C H locs ls hR hz hS hl => W.widen hk hs (vx_ret (W.lret C.1 C.2.1 (C.2.2.2.1.trans hr) (fun t ht _ => ⟨some (.long x), n, I, R, J, rfl, hq, by rw [ht]; exact hR, hS.F ht, fun q => V_end (hz q) (hx q) C.2.2.2.2.2.2.2.2.2.2⟩) hS.2.2 hd C.2.2.2.2.2.2.1))
end VR
