/-! ===== constructors ===== -/
section VC
variable {G : Gx} {md : MD} {d K S k sl pc : Nat} {lv : List (Nat × Value)} {rest : List Value} {n : Nat} {I : FI} {R : FR} {J : FJ} {Q : Po}
theorem V_nks {n' k' sl' : Nat} (hn : n = n') (hk : k = k') (hs : sl = sl') (kk : V G md d K S k' sl' pc lv rest n' I R J Q) : V G md d K S k sl pc lv rest n I R J Q := by subst hn; subst hk; subst hs; exact kk
theorem V_rwR {R' : FR} (h : R = R') (kk : V G md d K S k sl pc lv rest n I R' J Q) : V G md d K S k sl pc lv rest n I R J Q := by rw [h]; exact kk
end VC
theorem new_I {I : FI} {n : Nat} (h : I n = fun _ => 0) : upA I n (fun _ => 0) = I := by
  funext a; unfold upA; by_cases q : a = n
  · rw [if_pos q, q, h]
  · rw [if_neg q]
theorem new_R {R : FR} {n : Nat} (h : R n = fun _ => none) : upQ R n (fun _ => none) = R := by
  funext a; unfold upQ; by_cases q : a = n
  · rw [if_pos q, q, h]
  · rw [if_neg q]
/-- the first m references of o: the cells behind it -/
def RN (o m : Nat) (R : FR) : FR := fun a => if a = o then (fun k => if k < m then some (o + 1 + k) else R o k) else R a
theorem RN_0 {o : Nat} {R : FR} : R = RN o 0 R := by
  funext a; unfold RN; by_cases q : a = o
  · subst q; rw [if_pos rfl]; funext k; rw [if_neg (by omega)]
  · rw [if_neg q]
theorem RN_s {o m : Nat} {R : FR} : upR (RN o m R) o m (some (o + 1 + m)) = RN o (m + 1) R := by
  funext a
  by_cases q : a = o
  · subst q
    rw [upR_s]
    funext k
    unfold RN
    rw [if_pos rfl, if_pos rfl]
    by_cases e : k = m
    · subst e; rw [if_pos rfl, if_pos (by omega)]
    · rw [if_neg e]
      by_cases e2 : k < m
      · rw [if_pos e2, if_pos (by omega)]
      · rw [if_neg e2, if_neg (by omega)]
  · rw [upR_n _ _ _ q]; unfold RN; rw [if_neg q, if_neg q]
theorem RN_n {o m a : Nat} {R : FR} (h : a ≠ o) : RN o m R a = R a := if_neg h
/-- nothing is there yet from n on -/
def Zr (n : Nat) (I : FI) (R : FR) : Prop := (∀ a, n ≤ a → I a = fun _ => 0) ∧ ∀ a, n ≤ a → R a = fun _ => none
theorem Zr.mo {n n' : Nat} {I : FI} {R : FR} (h : Zr n I R) (hn : n ≤ n') : Zr n' I R := ⟨fun a ha => h.1 a (by omega), fun a ha => h.2 a (by omega)⟩
theorem Zr.RN {n o m : Nat} {I : FI} {R : FR} (h : Zr n I R) (ho : o < n) : Zr n I (RN o m R) := ⟨h.1, fun a ha => by rw [RN_n (by omega)]; exact h.2 a ha⟩
theorem Zr.R {n o k : Nat} {I : FI} {R : FR} {v : Option Nat} (h : Zr n I R) (ho : o < n) : Zr n I (upR R o k v) := ⟨h.1, fun a ha => by rw [upR_n _ _ _ (by omega)]; exact h.2 a ha⟩
theorem Zr.I {n : Nat} {I I' : FI} {R : FR} (h : Zr n I R) (hI : ∀ a, n ≤ a → I' a = I a) : Zr n I' R := ⟨fun a ha => by rw [hI a ha]; exact h.1 a ha, h.2⟩
theorem ffX8_9 : Cond.fieldLink RX8 9 (clT 8 0).1 (clT 8 0).2.1 (clT 8 0).2.2.1 ∈ TSg := TSg_at 131 (by decide +kernel) rfl
theorem ffX2_9 : Cond.fieldLink RX2 9 (clT 2 0).1 (clT 2 0).2.1 (clT 2 0).2.2.1 ∈ TSg := TSg_at 176 (by decide +kernel) rfl
theorem ffX2_15 : Cond.fieldLink RX2 15 (clT 2 1).1 (clT 2 1).2.1 (clT 2 1).2.2.1 ∈ TSg := TSg_at 179 (by decide +kernel) rfl
theorem ffX2_18 : Cond.fieldLink RX2 18 (clT 2 2).1 (clT 2 2).2.1 (clT 2 2).2.2.1 ∈ TSg := TSg_at 181 (by decide +kernel) rfl
theorem ffX2_21 : Cond.fieldLink RX2 21 (clT 2 3).1 (clT 2 3).2.1 (clT 2 3).2.2.1 ∈ TSg := TSg_at 184 (by decide +kernel) rfl
theorem ffX2_24 : Cond.fieldLink RX2 24 (clT 2 4).1 (clT 2 4).2.1 (clT 2 4).2.2.1 ∈ TSg := TSg_at 186 (by decide +kernel) rfl
theorem ffX2_27 : Cond.fieldLink RX2 27 (clT 2 5).1 (clT 2 5).2.1 (clT 2 5).2.2.1 ∈ TSg := TSg_at 189 (by decide +kernel) rfl
theorem ffX5_9 : Cond.fieldLink RX5 9 (clT 5 0).1 (clT 5 0).2.1 (clT 5 0).2.2.1 ∈ TSg := TSg_at 245 (by decide +kernel) rfl
theorem ffX5_15 : Cond.fieldLink RX5 15 (clT 5 1).1 (clT 5 1).2.1 (clT 5 1).2.2.1 ∈ TSg := TSg_at 246 (by decide +kernel) rfl
theorem ffX5_18 : Cond.fieldLink RX5 18 (clT 5 2).1 (clT 5 2).2.1 (clT 5 2).2.2.1 ∈ TSg := TSg_at 247 (by decide +kernel) rfl
theorem ffX5_21 : Cond.fieldLink RX5 21 (clT 5 3).1 (clT 5 3).2.1 (clT 5 3).2.2.1 ∈ TSg := TSg_at 248 (by decide +kernel) rfl
theorem ffX3_9 : Cond.fieldLink RX3 9 (clT 3 0).1 (clT 3 0).2.1 (clT 3 0).2.2.1 ∈ TSg := TSg_at 286 (by decide +kernel) rfl
theorem ffX3_15 : Cond.fieldLink RX3 15 (clT 3 1).1 (clT 3 1).2.1 (clT 3 1).2.2.1 ∈ TSg := TSg_at 289 (by decide +kernel) rfl
theorem ffX3_18 : Cond.fieldLink RX3 18 (clT 3 2).1 (clT 3 2).2.1 (clT 3 2).2.2.1 ∈ TSg := TSg_at 293 (by decide +kernel) rfl
theorem ffX3_21 : Cond.fieldLink RX3 21 (clT 3 3).1 (clT 3 3).2.1 (clT 3 3).2.2.1 ∈ TSg := TSg_at 296 (by decide +kernel) rfl
theorem ffX3_24 : Cond.fieldLink RX3 24 (clT 3 4).1 (clT 3 4).2.1 (clT 3 4).2.2.1 ∈ TSg := TSg_at 299 (by decide +kernel) rfl
theorem ffX3_27 : Cond.fieldLink RX3 27 (clT 3 5).1 (clT 3 5).2.1 (clT 3 5).2.2.1 ∈ TSg := TSg_at 301 (by decide +kernel) rfl
theorem ffX3_30 : Cond.fieldLink RX3 30 (clT 3 6).1 (clT 3 6).2.1 (clT 3 6).2.2.1 ∈ TSg := TSg_at 304 (by decide +kernel) rfl
theorem ffX9_11 : Cond.fieldLink RX9 11 (clT 9 0).1 (clT 9 0).2.1 (clT 9 0).2.2.1 ∈ TSg := TSg_at 339 (by decide +kernel) rfl
theorem ffX9_15 : Cond.fieldLink RX9 15 (clT 9 1).1 (clT 9 1).2.1 (clT 9 1).2.2.1 ∈ TSg := TSg_at 340 (by decide +kernel) rfl
theorem ffX9_18 : Cond.fieldLink RX9 18 (clT 9 2).1 (clT 9 2).2.1 (clT 9 2).2.2.1 ∈ TSg := TSg_at 341 (by decide +kernel) rfl
theorem ffX9_21 : Cond.fieldLink RX9 21 (clT 9 3).1 (clT 9 3).2.1 (clT 9 3).2.2.1 ∈ TSg := TSg_at 342 (by decide +kernel) rfl
theorem ffX4_13 : Cond.fieldLink RX4 13 (clT 4 0).1 (clT 4 0).2.1 (clT 4 0).2.2.1 ∈ TSg := TSg_at 372 (by decide +kernel) rfl
theorem ffX4_17 : Cond.fieldLink RX4 17 (clT 4 1).1 (clT 4 1).2.1 (clT 4 1).2.2.1 ∈ TSg := TSg_at 373 (by decide +kernel) rfl
theorem ffX4_20 : Cond.fieldLink RX4 20 (clT 4 2).1 (clT 4 2).2.1 (clT 4 2).2.2.1 ∈ TSg := TSg_at 374 (by decide +kernel) rfl
theorem ffX0_11 : Cond.fieldLink RX0 11 (clT 0 0).1 (clT 0 0).2.1 (clT 0 0).2.2.1 ∈ TSg := TSg_at 396 (by decide +kernel) rfl
theorem ffX0_15 : Cond.fieldLink RX0 15 (clT 0 1).1 (clT 0 1).2.1 (clT 0 1).2.2.1 ∈ TSg := TSg_at 397 (by decide +kernel) rfl
theorem ffX0_18 : Cond.fieldLink RX0 18 (clT 0 2).1 (clT 0 2).2.1 (clT 0 2).2.2.1 ∈ TSg := TSg_at 398 (by decide +kernel) rfl
theorem ffX0_21 : Cond.fieldLink RX0 21 (clT 0 3).1 (clT 0 3).2.1 (clT 0 3).2.2.1 ∈ TSg := TSg_at 399 (by decide +kernel) rfl
theorem ffX0_24 : Cond.fieldLink RX0 24 (clT 0 4).1 (clT 0 4).2.1 (clT 0 4).2.2.1 ∈ TSg := TSg_at 400 (by decide +kernel) rfl
theorem ffX0_27 : Cond.fieldLink RX0 27 (clT 0 5).1 (clT 0 5).2.1 (clT 0 5).2.2.1 ∈ TSg := TSg_at 402 (by decide +kernel) rfl
theorem ffX1_11 : Cond.fieldLink RX1 11 (clT 1 0).1 (clT 1 0).2.1 (clT 1 0).2.2.1 ∈ TSg := TSg_at 456 (by decide +kernel) rfl
theorem ffX1_15 : Cond.fieldLink RX1 15 (clT 1 1).1 (clT 1 1).2.1 (clT 1 1).2.2.1 ∈ TSg := TSg_at 457 (by decide +kernel) rfl
theorem ffX7_12 : Cond.fieldLink RX7 12 (clT 7 0).1 (clT 7 0).2.1 (clT 7 0).2.2.1 ∈ TSg := TSg_at 261 (by decide +kernel) rfl
theorem ffX7_21 : Cond.fieldLink RX7 21 (clT 7 1).1 (clT 7 1).2.1 (clT 7 1).2.2.1 ∈ TSg := TSg_at 266 (by decide +kernel) rfl
theorem ffX7_25 : Cond.fieldLink RX7 25 (clT 7 2).1 (clT 7 2).2.1 (clT 7 2).2.2.1 ∈ TSg := TSg_at 268 (by decide +kernel) rfl
theorem ffX7_29 : Cond.fieldLink RX7 29 (clT 7 3).1 (clT 7 3).2.1 (clT 7 3).2.2.1 ∈ TSg := TSg_at 270 (by decide +kernel) rfl
theorem ffX10_10 : Cond.fieldLink RX10 10 (clT 10 0).1 (clT 10 0).2.1 (clT 10 0).2.2.1 ∈ TSg := TSg_at 477 (by decide +kernel) rfl
theorem ffX10_19 : Cond.fieldLink RX10 19 (clT 10 1).1 (clT 10 1).2.1 (clT 10 1).2.2.1 ∈ TSg := TSg_at 478 (by decide +kernel) rfl
theorem ffX10_26 : Cond.fieldLink RX10 26 (clT 10 2).1 (clT 10 2).2.1 (clT 10 2).2.2.1 ∈ TSg := TSg_at 479 (by decide +kernel) rfl
theorem ffX10_30 : Cond.fieldLink RX10 30 (clT 10 3).1 (clT 10 3).2.1 (clT 10 3).2.2.1 ∈ TSg := TSg_at 480 (by decide +kernel) rfl
theorem ffX10_36 : Cond.fieldLink RX10 36 (clT 10 4).1 (clT 10 4).2.1 (clT 10 4).2.2.1 ∈ TSg := TSg_at 481 (by decide +kernel) rfl
theorem ffX10_43 : Cond.fieldLink RX10 43 (clT 10 5).1 (clT 10 5).2.1 (clT 10 5).2.2.1 ∈ TSg := TSg_at 482 (by decide +kernel) rfl
theorem ffX10_50 : Cond.fieldLink RX10 50 (clT 10 6).1 (clT 10 6).2.1 (clT 10 6).2.2.1 ∈ TSg := TSg_at 483 (by decide +kernel) rfl
theorem ffX10_57 : Cond.fieldLink RX10 57 (clT 10 7).1 (clT 10 7).2.1 (clT 10 7).2.2.1 ∈ TSg := TSg_at 484 (by decide +kernel) rfl
theorem ffX10_64 : Cond.fieldLink RX10 64 (clT 10 8).1 (clT 10 8).2.1 (clT 10 8).2.2.1 ∈ TSg := TSg_at 485 (by decide +kernel) rfl
theorem ffX10_71 : Cond.fieldLink RX10 71 (clT 10 9).1 (clT 10 9).2.1 (clT 10 9).2.2.1 ∈ TSg := TSg_at 486 (by decide +kernel) rfl
theorem ffX10_78 : Cond.fieldLink RX10 78 (clT 10 10).1 (clT 10 10).2.1 (clT 10 10).2.2.1 ∈ TSg := TSg_at 487 (by decide +kernel) rfl
theorem ffX10_82 : Cond.fieldLink RX10 82 (clT 10 11).1 (clT 10 11).2.1 (clT 10 11).2.2.1 ∈ TSg := TSg_at 488 (by decide +kernel) rfl
theorem ffX11_7 : Cond.fieldLink RX11 7 (clT 11 1).1 (clT 11 1).2.1 (clT 11 1).2.2.1 ∈ TSg := TSg_at 1374 (by decide +kernel) rfl
theorem ffX11_20 : Cond.fieldLink RX11 20 (clT 11 9).1 (clT 11 9).2.1 (clT 11 9).2.2.1 ∈ TSg := TSg_at 1382 (by decide +kernel) rfl
theorem ffX11_23 : Cond.fieldLink RX11 23 (clT 11 10).1 (clT 11 10).2.1 (clT 11 10).2.2.1 ∈ TSg := TSg_at 1383 (by decide +kernel) rfl
theorem ffX11_26 : Cond.fieldLink RX11 26 (clT 11 11).1 (clT 11 11).2.1 (clT 11 11).2.2.1 ∈ TSg := TSg_at 1384 (by decide +kernel) rfl
theorem ffX11_29 : Cond.fieldLink RX11 29 (clT 11 12).1 (clT 11 12).2.1 (clT 11 12).2.2.1 ∈ TSg := TSg_at 1385 (by decide +kernel) rfl
theorem ffX11_32 : Cond.fieldLink RX11 32 (clT 11 13).1 (clT 11 13).2.1 (clT 11 13).2.2.1 ∈ TSg := TSg_at 1386 (by decide +kernel) rfl
theorem ffX11_35 : Cond.fieldLink RX11 35 (clT 11 14).1 (clT 11 14).2.1 (clT 11 14).2.2.1 ∈ TSg := TSg_at 1387 (by decide +kernel) rfl
theorem ffX11_38 : Cond.fieldLink RX11 38 (clT 11 15).1 (clT 11 15).2.1 (clT 11 15).2.2.1 ∈ TSg := TSg_at 1388 (by decide +kernel) rfl
theorem ffX11_41 : Cond.fieldLink RX11 41 (clT 11 16).1 (clT 11 16).2.1 (clT 11 16).2.2.1 ∈ TSg := TSg_at 1389 (by decide +kernel) rfl
theorem ffX11_44 : Cond.fieldLink RX11 44 (clT 11 17).1 (clT 11 17).2.1 (clT 11 17).2.2.1 ∈ TSg := TSg_at 1390 (by decide +kernel) rfl
theorem ffX11_47 : Cond.fieldLink RX11 47 (clT 11 24).1 (clT 11 24).2.1 (clT 11 24).2.2.1 ∈ TSg := TSg_at 1397 (by decide +kernel) rfl
theorem ffX11_50 : Cond.fieldLink RX11 50 (clT 11 25).1 (clT 11 25).2.1 (clT 11 25).2.2.1 ∈ TSg := TSg_at 1398 (by decide +kernel) rfl
theorem ffX11_53 : Cond.fieldLink RX11 53 (clT 11 26).1 (clT 11 26).2.1 (clT 11 26).2.2.1 ∈ TSg := TSg_at 1399 (by decide +kernel) rfl
theorem ffX11_56 : Cond.fieldLink RX11 56 (clT 11 27).1 (clT 11 27).2.1 (clT 11 27).2.2.1 ∈ TSg := TSg_at 1400 (by decide +kernel) rfl
theorem ffX11_59 : Cond.fieldLink RX11 59 (clT 11 28).1 (clT 11 28).2.1 (clT 11 28).2.2.1 ∈ TSg := TSg_at 1401 (by decide +kernel) rfl
theorem ffX11_62 : Cond.fieldLink RX11 62 (clT 11 31).1 (clT 11 31).2.1 (clT 11 31).2.2.1 ∈ TSg := TSg_at 1404 (by decide +kernel) rfl
theorem ffX11_65 : Cond.fieldLink RX11 65 (clT 11 32).1 (clT 11 32).2.1 (clT 11 32).2.2.1 ∈ TSg := TSg_at 1405 (by decide +kernel) rfl
theorem ffX11_68 : Cond.fieldLink RX11 68 (clT 11 33).1 (clT 11 33).2.1 (clT 11 33).2.2.1 ∈ TSg := TSg_at 1406 (by decide +kernel) rfl
theorem ffX11_71 : Cond.fieldLink RX11 71 (clT 11 40).1 (clT 11 40).2.1 (clT 11 40).2.2.1 ∈ TSg := TSg_at 1413 (by decide +kernel) rfl
theorem ffX11_74 : Cond.fieldLink RX11 74 (clT 11 41).1 (clT 11 41).2.1 (clT 11 41).2.2.1 ∈ TSg := TSg_at 1414 (by decide +kernel) rfl
theorem ffX11_77 : Cond.fieldLink RX11 77 (clT 11 42).1 (clT 11 42).2.1 (clT 11 42).2.2.1 ∈ TSg := TSg_at 1415 (by decide +kernel) rfl
theorem ffX11_80 : Cond.fieldLink RX11 80 (clT 11 43).1 (clT 11 43).2.1 (clT 11 43).2.2.1 ∈ TSg := TSg_at 1416 (by decide +kernel) rfl
theorem ffX11_83 : Cond.fieldLink RX11 83 (clT 11 44).1 (clT 11 44).2.1 (clT 11 44).2.2.1 ∈ TSg := TSg_at 1417 (by decide +kernel) rfl
theorem ffX11_86 : Cond.fieldLink RX11 86 (clT 11 45).1 (clT 11 45).2.1 (clT 11 45).2.2.1 ∈ TSg := TSg_at 1418 (by decide +kernel) rfl
theorem ffX11_89 : Cond.fieldLink RX11 89 (clT 11 47).1 (clT 11 47).2.1 (clT 11 47).2.2.1 ∈ TSg := TSg_at 1420 (by decide +kernel) rfl
theorem ffX11_92 : Cond.fieldLink RX11 92 (clT 11 48).1 (clT 11 48).2.1 (clT 11 48).2.2.1 ∈ TSg := TSg_at 1421 (by decide +kernel) rfl
theorem ffX11_95 : Cond.fieldLink RX11 95 (clT 11 49).1 (clT 11 49).2.1 (clT 11 49).2.2.1 ∈ TSg := TSg_at 1422 (by decide +kernel) rfl
theorem ffX11_98 : Cond.fieldLink RX11 98 (clT 11 50).1 (clT 11 50).2.1 (clT 11 50).2.2.1 ∈ TSg := TSg_at 1423 (by decide +kernel) rfl
theorem ffX11_101 : Cond.fieldLink RX11 101 (clT 11 51).1 (clT 11 51).2.1 (clT 11 51).2.2.1 ∈ TSg := TSg_at 1424 (by decide +kernel) rfl
theorem ffX11_104 : Cond.fieldLink RX11 104 (clT 11 52).1 (clT 11 52).2.1 (clT 11 52).2.2.1 ∈ TSg := TSg_at 1425 (by decide +kernel) rfl
theorem ffX11_108 : Cond.fieldLink RX11 108 (clT 11 53).1 (clT 11 53).2.1 (clT 11 53).2.2.1 ∈ TSg := TSg_at 1426 (by decide +kernel) rfl
theorem ffX11_111 : Cond.fieldLink RX11 111 (clT 11 55).1 (clT 11 55).2.1 (clT 11 55).2.2.1 ∈ TSg := TSg_at 1428 (by decide +kernel) rfl
theorem i_X8_1 {G : Gx} {d : Nat} {I : FI} {R : FR} {J : FJ} {Q : Po} (hz : Zr 2 I R) (hq : Q (.inl none) 3 (up2 I 1 8 (-1)) (RN 1 1 R) J) : Cc G mX8_init (d + 2) 1 600 [rf G 1] 2 I R J Q := by
  show V _ _ _ _ _ _ _ _ [(0, rf G 1)] [] _ _ _ _ _
  refine V_rwR (RN_0 (o := 1)) ?_
  refine V_aload_n 1 0 rfl _ rfl rfl dX8_init_0 rfl ?_
  refine V_objInit 4 1 loX8 loI loC (Nat.le_of_ble_eq_true rfl) dX8_init_1 rfl ?_
  refine V_aload_n 5 0 rfl _ rfl rfl dX8_init_4 rfl ?_
  refine V_sipush 8 (600) rfl dX8_init_5 rfl ?_
  refine V_newa 10 1 600 (by decide) rfl ac_byte rfl (by decide) (by decide) rfl (by decide) (Nat.le_of_ble_eq_true rfl) (Nat.le_of_ble_eq_true rfl) dX8_init_8 rfl ?_
  refine V_rwI (new_I (hz.1 2 (by decide))) ?_
  refine V_nks (n' := 3) (k' := 1) (sl' := 600) rfl rfl rfl ?_
  refine V_putR 13 1 8 0 2 flX8_9 rfl rfl rfl (by decide) (Or.inr ⟨rfl, rfl, rfl, ffX8_9⟩) dX8_init_10 rfl ?_
  refine V_rwR (show _ = RN 1 1 R from RN_s) ?_
  refine V_aload_n 14 0 rfl _ rfl rfl dX8_init_13 rfl ?_
  refine V_iconst 15 (-1) rfl dX8_init_14 rfl ?_
  refine V_putI 18 1 8 8 flX8_15 rfl rfl rfl (by decide) rfl dX8_init_15 rfl ?_
  refine V_ret_v rfl (Nat.le_of_ble_eq_true rfl) (fun _ => Nat.le_refl _) (Nat.le_of_ble_eq_true rfl) (hq) dX8_init_18
theorem i_X2_4 {G : Gx} {d : Nat} {I : FI} {R : FR} {J : FJ} {Q : Po} (hz : Zr 5 I R) (hq : Q (.inl none) 11 (I) (RN 4 6 R) J) : Cc G mX2_init (d + 2) 6 40 [rf G 4] 5 I R J Q := by
  show V _ _ _ _ _ _ _ _ [(0, rf G 4)] [] _ _ _ _ _
  refine V_rwR (RN_0 (o := 4)) ?_
  refine V_aload_n 1 0 rfl _ rfl rfl dX2_init_0 rfl ?_
  refine V_objInit 4 4 loX2 loI loC (Nat.le_of_ble_eq_true rfl) dX2_init_1 rfl ?_
  refine V_aload_n 5 0 rfl _ rfl rfl dX2_init_4 rfl ?_
  refine V_bipush 7 (8) rfl dX2_init_5 rfl ?_
  refine V_newa 9 0 8 (by decide) rfl ac_int rfl (by decide) (by decide) rfl (by decide) (Nat.le_of_ble_eq_true rfl) (Nat.le_of_ble_eq_true rfl) dX2_init_7 rfl ?_
  refine V_rwI (new_I (hz.1 5 (by decide))) ?_
  refine V_nks (n' := 6) (k' := 1) (sl' := 8) rfl rfl rfl ?_
  refine V_putR 12 4 2 0 5 flX2_9 rfl rfl rfl (by decide) (Or.inr ⟨rfl, rfl, rfl, ffX2_9⟩) dX2_init_9 rfl ?_
  refine V_rwR (show _ = RN 4 1 R from RN_s) ?_
  refine V_aload_n 13 0 rfl _ rfl rfl dX2_init_12 rfl ?_
  refine V_bipush 15 (8) rfl dX2_init_13 rfl ?_
  refine V_newa 17 0 8 (by decide) rfl ac_int rfl (by decide) (by decide) rfl (by decide) (Nat.le_of_ble_eq_true rfl) (Nat.le_of_ble_eq_true rfl) dX2_init_15 rfl ?_
  refine V_rwI (new_I (hz.1 6 (by decide))) ?_
  refine V_nks (n' := 7) (k' := 2) (sl' := 16) rfl rfl rfl ?_
  refine V_putR 20 4 2 1 6 flX2_15 rfl rfl rfl (by decide) (Or.inr ⟨rfl, rfl, rfl, ffX2_15⟩) dX2_init_17 rfl ?_
  refine V_rwR (show _ = RN 4 2 R from RN_s) ?_
  refine V_aload_n 21 0 rfl _ rfl rfl dX2_init_20 rfl ?_
  refine V_bipush 23 (6) rfl dX2_init_21 rfl ?_
  refine V_newa 25 0 6 (by decide) rfl ac_int rfl (by decide) (by decide) rfl (by decide) (Nat.le_of_ble_eq_true rfl) (Nat.le_of_ble_eq_true rfl) dX2_init_23 rfl ?_
  refine V_rwI (new_I (hz.1 7 (by decide))) ?_
  refine V_nks (n' := 8) (k' := 3) (sl' := 22) rfl rfl rfl ?_
  refine V_putR 28 4 2 2 7 flX2_18 rfl rfl rfl (by decide) (Or.inr ⟨rfl, rfl, rfl, ffX2_18⟩) dX2_init_25 rfl ?_
  refine V_rwR (show _ = RN 4 3 R from RN_s) ?_
  refine V_aload_n 29 0 rfl _ rfl rfl dX2_init_28 rfl ?_
  refine V_bipush 31 (6) rfl dX2_init_29 rfl ?_
  refine V_newa 33 0 6 (by decide) rfl ac_int rfl (by decide) (by decide) rfl (by decide) (Nat.le_of_ble_eq_true rfl) (Nat.le_of_ble_eq_true rfl) dX2_init_31 rfl ?_
  refine V_rwI (new_I (hz.1 8 (by decide))) ?_
  refine V_nks (n' := 9) (k' := 4) (sl' := 28) rfl rfl rfl ?_
  refine V_putR 36 4 2 3 8 flX2_21 rfl rfl rfl (by decide) (Or.inr ⟨rfl, rfl, rfl, ffX2_21⟩) dX2_init_33 rfl ?_
  refine V_rwR (show _ = RN 4 4 R from RN_s) ?_
  refine V_aload_n 37 0 rfl _ rfl rfl dX2_init_36 rfl ?_
  refine V_bipush 39 (6) rfl dX2_init_37 rfl ?_
  refine V_newa 41 0 6 (by decide) rfl ac_int rfl (by decide) (by decide) rfl (by decide) (Nat.le_of_ble_eq_true rfl) (Nat.le_of_ble_eq_true rfl) dX2_init_39 rfl ?_
  refine V_rwI (new_I (hz.1 9 (by decide))) ?_
  refine V_nks (n' := 10) (k' := 5) (sl' := 34) rfl rfl rfl ?_
  refine V_putR 44 4 2 4 9 flX2_24 rfl rfl rfl (by decide) (Or.inr ⟨rfl, rfl, rfl, ffX2_24⟩) dX2_init_41 rfl ?_
  refine V_rwR (show _ = RN 4 5 R from RN_s) ?_
  refine V_aload_n 45 0 rfl _ rfl rfl dX2_init_44 rfl ?_
  refine V_bipush 47 (6) rfl dX2_init_45 rfl ?_
  refine V_newa 49 0 6 (by decide) rfl ac_int rfl (by decide) (by decide) rfl (by decide) (Nat.le_of_ble_eq_true rfl) (Nat.le_of_ble_eq_true rfl) dX2_init_47 rfl ?_
  refine V_rwI (new_I (hz.1 10 (by decide))) ?_
  refine V_nks (n' := 11) (k' := 6) (sl' := 40) rfl rfl rfl ?_
  refine V_putR 52 4 2 5 10 flX2_27 rfl rfl rfl (by decide) (Or.inr ⟨rfl, rfl, rfl, ffX2_27⟩) dX2_init_49 rfl ?_
  refine V_rwR (show _ = RN 4 6 R from RN_s) ?_
  refine V_ret_v rfl (Nat.le_of_ble_eq_true rfl) (fun _ => Nat.le_refl _) (Nat.le_of_ble_eq_true rfl) (hq) dX2_init_52
theorem i_X5_11 {G : Gx} {d : Nat} {I : FI} {R : FR} {J : FJ} {Q : Po} (hz : Zr 12 I R) (hq : ∀ I', LawC I' 11 stdF → FrL I I' 11 → Q (.inl none) 16 I' (RN 11 4 R) J) : Cc G mX5_init (d + 2) 4 600 [rf G 11] 12 I R J Q := by
  show V _ _ _ _ _ _ _ _ [(0, rf G 11)] [] _ _ _ _ _
  refine V_rwR (RN_0 (o := 11)) ?_
  refine V_aload_n 1 0 rfl _ rfl rfl dX5_init_0 rfl ?_
  refine V_objInit 4 11 loX5 loI loC (Nat.le_of_ble_eq_true rfl) dX5_init_1 rfl ?_
  refine V_aload_n 5 0 rfl _ rfl rfl dX5_init_4 rfl ?_
  refine V_sipush 8 (150) rfl dX5_init_5 rfl ?_
  refine V_newa 10 0 150 (by decide) rfl ac_int rfl (by decide) (by decide) rfl (by decide) (Nat.le_of_ble_eq_true rfl) (Nat.le_of_ble_eq_true rfl) dX5_init_8 rfl ?_
  refine V_rwI (new_I (hz.1 12 (by decide))) ?_
  refine V_nks (n' := 13) (k' := 1) (sl' := 150) rfl rfl rfl ?_
  refine V_putR 13 11 5 0 12 flX5_9 rfl rfl rfl (by decide) (Or.inr ⟨rfl, rfl, rfl, ffX5_9⟩) dX5_init_10 rfl ?_
  refine V_rwR (show _ = RN 11 1 R from RN_s) ?_
  refine V_aload_n 14 0 rfl _ rfl rfl dX5_init_13 rfl ?_
  refine V_sipush 17 (150) rfl dX5_init_14 rfl ?_
  refine V_newa 19 0 150 (by decide) rfl ac_int rfl (by decide) (by decide) rfl (by decide) (Nat.le_of_ble_eq_true rfl) (Nat.le_of_ble_eq_true rfl) dX5_init_17 rfl ?_
  refine V_rwI (new_I (hz.1 13 (by decide))) ?_
  refine V_nks (n' := 14) (k' := 2) (sl' := 300) rfl rfl rfl ?_
  refine V_putR 22 11 5 1 13 flX5_15 rfl rfl rfl (by decide) (Or.inr ⟨rfl, rfl, rfl, ffX5_15⟩) dX5_init_19 rfl ?_
  refine V_rwR (show _ = RN 11 2 R from RN_s) ?_
  refine V_aload_n 23 0 rfl _ rfl rfl dX5_init_22 rfl ?_
  refine V_sipush 26 (150) rfl dX5_init_23 rfl ?_
  refine V_newa 28 0 150 (by decide) rfl ac_int rfl (by decide) (by decide) rfl (by decide) (Nat.le_of_ble_eq_true rfl) (Nat.le_of_ble_eq_true rfl) dX5_init_26 rfl ?_
  refine V_rwI (new_I (hz.1 14 (by decide))) ?_
  refine V_nks (n' := 15) (k' := 3) (sl' := 450) rfl rfl rfl ?_
  refine V_putR 31 11 5 2 14 flX5_18 rfl rfl rfl (by decide) (Or.inr ⟨rfl, rfl, rfl, ffX5_18⟩) dX5_init_28 rfl ?_
  refine V_rwR (show _ = RN 11 3 R from RN_s) ?_
  refine V_aload_n 32 0 rfl _ rfl rfl dX5_init_31 rfl ?_
  refine V_sipush 35 (150) rfl dX5_init_32 rfl ?_
  refine V_newa 37 0 150 (by decide) rfl ac_int rfl (by decide) (by decide) rfl (by decide) (Nat.le_of_ble_eq_true rfl) (Nat.le_of_ble_eq_true rfl) dX5_init_35 rfl ?_
  refine V_rwI (new_I (hz.1 15 (by decide))) ?_
  refine V_nks (n' := 16) (k' := 4) (sl' := 600) rfl rfl rfl ?_
  refine V_putR 40 11 5 3 15 flX5_21 rfl rfl rfl (by decide) (Or.inr ⟨rfl, rfl, rfl, ffX5_21⟩) dX5_init_37 rfl ?_
  refine V_rwR (show _ = RN 11 4 R from RN_s) ?_
  refine V_aload_n 41 0 rfl _ rfl rfl dX5_init_40 rfl ?_
  refine V_callV (K' := 0) (S' := 0) 44 11 5 0 [] mkX5_beStandard lkX5_24 (by decide) rfl rfl (by decide) rfl (Nat.le_of_ble_eq_true rfl) (Nat.le_of_ble_eq_true rfl) (Nat.le_of_ble_eq_true rfl) (Nat.le_of_ble_eq_true rfl) rfl rfl dX5_init_41 rfl (c_X5_beStandard (n := 16) (l := 11) (by decide) rfl rfl rfl (Or.inl rfl) (fun I2 hL2 hF2 => ?_))
  refine Kq_v (k' := 4) (sl' := 600) rfl rfl ?_
  refine V_ret_v rfl (Nat.le_of_ble_eq_true rfl) (fun _ => Nat.le_refl _) (Nat.le_of_ble_eq_true rfl) (hq I2 hL2 hF2) dX5_init_44
theorem i_X3_18 {G : Gx} {d : Nat} {I : FI} {R : FR} {J : FJ} {Q : Po} (hz : Zr 19 I R) (hq : Q (.inl none) 26 (I) (RN 18 7 R) J) : Cc G mX3_init (d + 2) 7 44 [rf G 18] 19 I R J Q := by
  show V _ _ _ _ _ _ _ _ [(0, rf G 18)] [] _ _ _ _ _
  refine V_rwR (RN_0 (o := 18)) ?_
  refine V_aload_n 1 0 rfl _ rfl rfl dX3_init_0 rfl ?_
  refine V_objInit 4 18 loX3 loI loC (Nat.le_of_ble_eq_true rfl) dX3_init_1 rfl ?_
  refine V_aload_n 5 0 rfl _ rfl rfl dX3_init_4 rfl ?_
  refine V_bipush 7 (6) rfl dX3_init_5 rfl ?_
  refine V_newa 9 0 6 (by decide) rfl ac_int rfl (by decide) (by decide) rfl (by decide) (Nat.le_of_ble_eq_true rfl) (Nat.le_of_ble_eq_true rfl) dX3_init_7 rfl ?_
  refine V_rwI (new_I (hz.1 19 (by decide))) ?_
  refine V_nks (n' := 20) (k' := 1) (sl' := 6) rfl rfl rfl ?_
  refine V_putR 12 18 3 0 19 flX3_9 rfl rfl rfl (by decide) (Or.inr ⟨rfl, rfl, rfl, ffX3_9⟩) dX3_init_9 rfl ?_
  refine V_rwR (show _ = RN 18 1 R from RN_s) ?_
  refine V_aload_n 13 0 rfl _ rfl rfl dX3_init_12 rfl ?_
  refine V_bipush 15 (6) rfl dX3_init_13 rfl ?_
  refine V_newa 17 0 6 (by decide) rfl ac_int rfl (by decide) (by decide) rfl (by decide) (Nat.le_of_ble_eq_true rfl) (Nat.le_of_ble_eq_true rfl) dX3_init_15 rfl ?_
  refine V_rwI (new_I (hz.1 20 (by decide))) ?_
  refine V_nks (n' := 21) (k' := 2) (sl' := 12) rfl rfl rfl ?_
  refine V_putR 20 18 3 1 20 flX3_15 rfl rfl rfl (by decide) (Or.inr ⟨rfl, rfl, rfl, ffX3_15⟩) dX3_init_17 rfl ?_
  refine V_rwR (show _ = RN 18 2 R from RN_s) ?_
  refine V_aload_n 21 0 rfl _ rfl rfl dX3_init_20 rfl ?_
  refine V_bipush 23 (6) rfl dX3_init_21 rfl ?_
  refine V_newa 25 0 6 (by decide) rfl ac_int rfl (by decide) (by decide) rfl (by decide) (Nat.le_of_ble_eq_true rfl) (Nat.le_of_ble_eq_true rfl) dX3_init_23 rfl ?_
  refine V_rwI (new_I (hz.1 21 (by decide))) ?_
  refine V_nks (n' := 22) (k' := 3) (sl' := 18) rfl rfl rfl ?_
  refine V_putR 28 18 3 2 21 flX3_18 rfl rfl rfl (by decide) (Or.inr ⟨rfl, rfl, rfl, ffX3_18⟩) dX3_init_25 rfl ?_
  refine V_rwR (show _ = RN 18 3 R from RN_s) ?_
  refine V_aload_n 29 0 rfl _ rfl rfl dX3_init_28 rfl ?_
  refine V_bipush 31 (6) rfl dX3_init_29 rfl ?_
  refine V_newa 33 0 6 (by decide) rfl ac_int rfl (by decide) (by decide) rfl (by decide) (Nat.le_of_ble_eq_true rfl) (Nat.le_of_ble_eq_true rfl) dX3_init_31 rfl ?_
  refine V_rwI (new_I (hz.1 22 (by decide))) ?_
  refine V_nks (n' := 23) (k' := 4) (sl' := 24) rfl rfl rfl ?_
  refine V_putR 36 18 3 3 22 flX3_21 rfl rfl rfl (by decide) (Or.inr ⟨rfl, rfl, rfl, ffX3_21⟩) dX3_init_33 rfl ?_
  refine V_rwR (show _ = RN 18 4 R from RN_s) ?_
  refine V_aload_n 37 0 rfl _ rfl rfl dX3_init_36 rfl ?_
  refine V_bipush 39 (6) rfl dX3_init_37 rfl ?_
  refine V_newa 41 0 6 (by decide) rfl ac_int rfl (by decide) (by decide) rfl (by decide) (Nat.le_of_ble_eq_true rfl) (Nat.le_of_ble_eq_true rfl) dX3_init_39 rfl ?_
  refine V_rwI (new_I (hz.1 23 (by decide))) ?_
  refine V_nks (n' := 24) (k' := 5) (sl' := 30) rfl rfl rfl ?_
  refine V_putR 44 18 3 4 23 flX3_24 rfl rfl rfl (by decide) (Or.inr ⟨rfl, rfl, rfl, ffX3_24⟩) dX3_init_41 rfl ?_
  refine V_rwR (show _ = RN 18 5 R from RN_s) ?_
  refine V_aload_n 45 0 rfl _ rfl rfl dX3_init_44 rfl ?_
  refine V_bipush 47 (8) rfl dX3_init_45 rfl ?_
  refine V_newa 49 0 8 (by decide) rfl ac_int rfl (by decide) (by decide) rfl (by decide) (Nat.le_of_ble_eq_true rfl) (Nat.le_of_ble_eq_true rfl) dX3_init_47 rfl ?_
  refine V_rwI (new_I (hz.1 24 (by decide))) ?_
  refine V_nks (n' := 25) (k' := 6) (sl' := 38) rfl rfl rfl ?_
  refine V_putR 52 18 3 5 24 flX3_27 rfl rfl rfl (by decide) (Or.inr ⟨rfl, rfl, rfl, ffX3_27⟩) dX3_init_49 rfl ?_
  refine V_rwR (show _ = RN 18 6 R from RN_s) ?_
  refine V_aload_n 53 0 rfl _ rfl rfl dX3_init_52 rfl ?_
  refine V_bipush 55 (6) rfl dX3_init_53 rfl ?_
  refine V_newa 57 0 6 (by decide) rfl ac_int rfl (by decide) (by decide) rfl (by decide) (Nat.le_of_ble_eq_true rfl) (Nat.le_of_ble_eq_true rfl) dX3_init_55 rfl ?_
  refine V_rwI (new_I (hz.1 25 (by decide))) ?_
  refine V_nks (n' := 26) (k' := 7) (sl' := 44) rfl rfl rfl ?_
  refine V_putR 60 18 3 6 25 flX3_30 rfl rfl rfl (by decide) (Or.inr ⟨rfl, rfl, rfl, ffX3_30⟩) dX3_init_57 rfl ?_
  refine V_rwR (show _ = RN 18 7 R from RN_s) ?_
  refine V_ret_v rfl (Nat.le_of_ble_eq_true rfl) (fun _ => Nat.le_refl _) (Nat.le_of_ble_eq_true rfl) (hq) dX3_init_60
theorem i_X3_26 {G : Gx} {d : Nat} {I : FI} {R : FR} {J : FJ} {Q : Po} (hz : Zr 27 I R) (hq : Q (.inl none) 34 (I) (RN 26 7 R) J) : Cc G mX3_init (d + 2) 7 44 [rf G 26] 27 I R J Q := by
  show V _ _ _ _ _ _ _ _ [(0, rf G 26)] [] _ _ _ _ _
  refine V_rwR (RN_0 (o := 26)) ?_
  refine V_aload_n 1 0 rfl _ rfl rfl dX3_init_0 rfl ?_
  refine V_objInit 4 26 loX3 loI loC (Nat.le_of_ble_eq_true rfl) dX3_init_1 rfl ?_
  refine V_aload_n 5 0 rfl _ rfl rfl dX3_init_4 rfl ?_
  refine V_bipush 7 (6) rfl dX3_init_5 rfl ?_
  refine V_newa 9 0 6 (by decide) rfl ac_int rfl (by decide) (by decide) rfl (by decide) (Nat.le_of_ble_eq_true rfl) (Nat.le_of_ble_eq_true rfl) dX3_init_7 rfl ?_
  refine V_rwI (new_I (hz.1 27 (by decide))) ?_
  refine V_nks (n' := 28) (k' := 1) (sl' := 6) rfl rfl rfl ?_
  refine V_putR 12 26 3 0 27 flX3_9 rfl rfl rfl (by decide) (Or.inr ⟨rfl, rfl, rfl, ffX3_9⟩) dX3_init_9 rfl ?_
  refine V_rwR (show _ = RN 26 1 R from RN_s) ?_
  refine V_aload_n 13 0 rfl _ rfl rfl dX3_init_12 rfl ?_
  refine V_bipush 15 (6) rfl dX3_init_13 rfl ?_
  refine V_newa 17 0 6 (by decide) rfl ac_int rfl (by decide) (by decide) rfl (by decide) (Nat.le_of_ble_eq_true rfl) (Nat.le_of_ble_eq_true rfl) dX3_init_15 rfl ?_
  refine V_rwI (new_I (hz.1 28 (by decide))) ?_
  refine V_nks (n' := 29) (k' := 2) (sl' := 12) rfl rfl rfl ?_
  refine V_putR 20 26 3 1 28 flX3_15 rfl rfl rfl (by decide) (Or.inr ⟨rfl, rfl, rfl, ffX3_15⟩) dX3_init_17 rfl ?_
  refine V_rwR (show _ = RN 26 2 R from RN_s) ?_
  refine V_aload_n 21 0 rfl _ rfl rfl dX3_init_20 rfl ?_
  refine V_bipush 23 (6) rfl dX3_init_21 rfl ?_
  refine V_newa 25 0 6 (by decide) rfl ac_int rfl (by decide) (by decide) rfl (by decide) (Nat.le_of_ble_eq_true rfl) (Nat.le_of_ble_eq_true rfl) dX3_init_23 rfl ?_
  refine V_rwI (new_I (hz.1 29 (by decide))) ?_
  refine V_nks (n' := 30) (k' := 3) (sl' := 18) rfl rfl rfl ?_
  refine V_putR 28 26 3 2 29 flX3_18 rfl rfl rfl (by decide) (Or.inr ⟨rfl, rfl, rfl, ffX3_18⟩) dX3_init_25 rfl ?_
  refine V_rwR (show _ = RN 26 3 R from RN_s) ?_
  refine V_aload_n 29 0 rfl _ rfl rfl dX3_init_28 rfl ?_
  refine V_bipush 31 (6) rfl dX3_init_29 rfl ?_
  refine V_newa 33 0 6 (by decide) rfl ac_int rfl (by decide) (by decide) rfl (by decide) (Nat.le_of_ble_eq_true rfl) (Nat.le_of_ble_eq_true rfl) dX3_init_31 rfl ?_
  refine V_rwI (new_I (hz.1 30 (by decide))) ?_
  refine V_nks (n' := 31) (k' := 4) (sl' := 24) rfl rfl rfl ?_
  refine V_putR 36 26 3 3 30 flX3_21 rfl rfl rfl (by decide) (Or.inr ⟨rfl, rfl, rfl, ffX3_21⟩) dX3_init_33 rfl ?_
  refine V_rwR (show _ = RN 26 4 R from RN_s) ?_
  refine V_aload_n 37 0 rfl _ rfl rfl dX3_init_36 rfl ?_
  refine V_bipush 39 (6) rfl dX3_init_37 rfl ?_
  refine V_newa 41 0 6 (by decide) rfl ac_int rfl (by decide) (by decide) rfl (by decide) (Nat.le_of_ble_eq_true rfl) (Nat.le_of_ble_eq_true rfl) dX3_init_39 rfl ?_
  refine V_rwI (new_I (hz.1 31 (by decide))) ?_
  refine V_nks (n' := 32) (k' := 5) (sl' := 30) rfl rfl rfl ?_
  refine V_putR 44 26 3 4 31 flX3_24 rfl rfl rfl (by decide) (Or.inr ⟨rfl, rfl, rfl, ffX3_24⟩) dX3_init_41 rfl ?_
  refine V_rwR (show _ = RN 26 5 R from RN_s) ?_
  refine V_aload_n 45 0 rfl _ rfl rfl dX3_init_44 rfl ?_
  refine V_bipush 47 (8) rfl dX3_init_45 rfl ?_
  refine V_newa 49 0 8 (by decide) rfl ac_int rfl (by decide) (by decide) rfl (by decide) (Nat.le_of_ble_eq_true rfl) (Nat.le_of_ble_eq_true rfl) dX3_init_47 rfl ?_
  refine V_rwI (new_I (hz.1 32 (by decide))) ?_
  refine V_nks (n' := 33) (k' := 6) (sl' := 38) rfl rfl rfl ?_
  refine V_putR 52 26 3 5 32 flX3_27 rfl rfl rfl (by decide) (Or.inr ⟨rfl, rfl, rfl, ffX3_27⟩) dX3_init_49 rfl ?_
  refine V_rwR (show _ = RN 26 6 R from RN_s) ?_
  refine V_aload_n 53 0 rfl _ rfl rfl dX3_init_52 rfl ?_
  refine V_bipush 55 (6) rfl dX3_init_53 rfl ?_
  refine V_newa 57 0 6 (by decide) rfl ac_int rfl (by decide) (by decide) rfl (by decide) (Nat.le_of_ble_eq_true rfl) (Nat.le_of_ble_eq_true rfl) dX3_init_55 rfl ?_
  refine V_rwI (new_I (hz.1 33 (by decide))) ?_
  refine V_nks (n' := 34) (k' := 7) (sl' := 44) rfl rfl rfl ?_
  refine V_putR 60 26 3 6 33 flX3_30 rfl rfl rfl (by decide) (Or.inr ⟨rfl, rfl, rfl, ffX3_30⟩) dX3_init_57 rfl ?_
  refine V_rwR (show _ = RN 26 7 R from RN_s) ?_
  refine V_ret_v rfl (Nat.le_of_ble_eq_true rfl) (fun _ => Nat.le_refl _) (Nat.le_of_ble_eq_true rfl) (hq) dX3_init_60
theorem i_X9_34 {G : Gx} {d : Nat} {I : FI} {R : FR} {J : FJ} {Q : Po} (hz : Zr 35 I R) (hq : Q (.inl none) 39 (I) (RN 34 4 R) J) : Cc G mX9_init (d + 2) 4 124 [rf G 34] 35 I R J Q := by
  show V _ _ _ _ _ _ _ _ [(0, rf G 34)] [] _ _ _ _ _
  refine V_rwR (RN_0 (o := 34)) ?_
  refine V_aload_n 1 0 rfl _ rfl rfl dX9_init_0 rfl ?_
  refine V_objInit 4 34 loX9 loI loC (Nat.le_of_ble_eq_true rfl) dX9_init_1 rfl ?_
  refine V_aload_n 5 0 rfl _ rfl rfl dX9_init_4 rfl ?_
  refine V_bipush 7 (31) rfl dX9_init_5 rfl ?_
  refine V_newa 9 0 31 (by decide) rfl ac_int rfl (by decide) (by decide) rfl (by decide) (Nat.le_of_ble_eq_true rfl) (Nat.le_of_ble_eq_true rfl) dX9_init_7 rfl ?_
  refine V_rwI (new_I (hz.1 35 (by decide))) ?_
  refine V_nks (n' := 36) (k' := 1) (sl' := 31) rfl rfl rfl ?_
  refine V_putR 12 34 9 0 35 flX9_11 rfl rfl rfl (by decide) (Or.inr ⟨rfl, rfl, rfl, ffX9_11⟩) dX9_init_9 rfl ?_
  refine V_rwR (show _ = RN 34 1 R from RN_s) ?_
  refine V_aload_n 13 0 rfl _ rfl rfl dX9_init_12 rfl ?_
  refine V_bipush 15 (31) rfl dX9_init_13 rfl ?_
  refine V_newa 17 0 31 (by decide) rfl ac_int rfl (by decide) (by decide) rfl (by decide) (Nat.le_of_ble_eq_true rfl) (Nat.le_of_ble_eq_true rfl) dX9_init_15 rfl ?_
  refine V_rwI (new_I (hz.1 36 (by decide))) ?_
  refine V_nks (n' := 37) (k' := 2) (sl' := 62) rfl rfl rfl ?_
  refine V_putR 20 34 9 1 36 flX9_15 rfl rfl rfl (by decide) (Or.inr ⟨rfl, rfl, rfl, ffX9_15⟩) dX9_init_17 rfl ?_
  refine V_rwR (show _ = RN 34 2 R from RN_s) ?_
  refine V_aload_n 21 0 rfl _ rfl rfl dX9_init_20 rfl ?_
  refine V_bipush 23 (31) rfl dX9_init_21 rfl ?_
  refine V_newa 25 0 31 (by decide) rfl ac_int rfl (by decide) (by decide) rfl (by decide) (Nat.le_of_ble_eq_true rfl) (Nat.le_of_ble_eq_true rfl) dX9_init_23 rfl ?_
  refine V_rwI (new_I (hz.1 37 (by decide))) ?_
  refine V_nks (n' := 38) (k' := 3) (sl' := 93) rfl rfl rfl ?_
  refine V_putR 28 34 9 2 37 flX9_18 rfl rfl rfl (by decide) (Or.inr ⟨rfl, rfl, rfl, ffX9_18⟩) dX9_init_25 rfl ?_
  refine V_rwR (show _ = RN 34 3 R from RN_s) ?_
  refine V_aload_n 29 0 rfl _ rfl rfl dX9_init_28 rfl ?_
  refine V_bipush 31 (31) rfl dX9_init_29 rfl ?_
  refine V_newa 33 0 31 (by decide) rfl ac_int rfl (by decide) (by decide) rfl (by decide) (Nat.le_of_ble_eq_true rfl) (Nat.le_of_ble_eq_true rfl) dX9_init_31 rfl ?_
  refine V_rwI (new_I (hz.1 38 (by decide))) ?_
  refine V_nks (n' := 39) (k' := 4) (sl' := 124) rfl rfl rfl ?_
  refine V_putR 36 34 9 3 38 flX9_21 rfl rfl rfl (by decide) (Or.inr ⟨rfl, rfl, rfl, ffX9_21⟩) dX9_init_33 rfl ?_
  refine V_rwR (show _ = RN 34 4 R from RN_s) ?_
  refine V_ret_v rfl (Nat.le_of_ble_eq_true rfl) (fun _ => Nat.le_refl _) (Nat.le_of_ble_eq_true rfl) (hq) dX9_init_36
theorem i_X4_39 {G : Gx} {d : Nat} {I : FI} {R : FR} {J : FJ} {Q : Po} (hz : Zr 40 I R) (hq : Q (.inl none) 43 (I) (RN 39 3 R) J) : Cc G mX4_init (d + 2) 3 3085 [rf G 39] 40 I R J Q := by
  show V _ _ _ _ _ _ _ _ [(0, rf G 39)] [] _ _ _ _ _
  refine V_rwR (RN_0 (o := 39)) ?_
  refine V_aload_n 1 0 rfl _ rfl rfl dX4_init_0 rfl ?_
  refine V_objInit 4 39 loX4 loI loC (Nat.le_of_ble_eq_true rfl) dX4_init_1 rfl ?_
  refine V_aload_n 5 0 rfl _ rfl rfl dX4_init_4 rfl ?_
  refine V_sipush 8 (736) rfl dX4_init_5 rfl ?_
  refine V_newa 10 0 736 (by decide) rfl ac_int rfl (by decide) (by decide) rfl (by decide) (Nat.le_of_ble_eq_true rfl) (Nat.le_of_ble_eq_true rfl) dX4_init_8 rfl ?_
  refine V_rwI (new_I (hz.1 40 (by decide))) ?_
  refine V_nks (n' := 41) (k' := 1) (sl' := 736) rfl rfl rfl ?_
  refine V_putR 13 39 4 0 40 flX4_13 rfl rfl rfl (by decide) (Or.inr ⟨rfl, rfl, rfl, ffX4_13⟩) dX4_init_10 rfl ?_
  refine V_rwR (show _ = RN 39 1 R from RN_s) ?_
  refine V_aload_n 14 0 rfl _ rfl rfl dX4_init_13 rfl ?_
  refine V_sipush 17 (2346) rfl dX4_init_14 rfl ?_
  refine V_newa 19 0 2346 (by decide) rfl ac_int rfl (by decide) (by decide) rfl (by decide) (Nat.le_of_ble_eq_true rfl) (Nat.le_of_ble_eq_true rfl) dX4_init_17 rfl ?_
  refine V_rwI (new_I (hz.1 41 (by decide))) ?_
  refine V_nks (n' := 42) (k' := 2) (sl' := 3082) rfl rfl rfl ?_
  refine V_putR 22 39 4 1 41 flX4_17 rfl rfl rfl (by decide) (Or.inr ⟨rfl, rfl, rfl, ffX4_17⟩) dX4_init_19 rfl ?_
  refine V_rwR (show _ = RN 39 2 R from RN_s) ?_
  refine V_aload_n 23 0 rfl _ rfl rfl dX4_init_22 rfl ?_
  refine V_iconst 24 (3) rfl dX4_init_23 rfl ?_
  refine V_newa 26 0 3 (by decide) rfl ac_int rfl (by decide) (by decide) rfl (by decide) (Nat.le_of_ble_eq_true rfl) (Nat.le_of_ble_eq_true rfl) dX4_init_24 rfl ?_
  refine V_rwI (new_I (hz.1 42 (by decide))) ?_
  refine V_nks (n' := 43) (k' := 3) (sl' := 3085) rfl rfl rfl ?_
  refine V_putR 29 39 4 2 42 flX4_20 rfl rfl rfl (by decide) (Or.inr ⟨rfl, rfl, rfl, ffX4_20⟩) dX4_init_26 rfl ?_
  refine V_rwR (show _ = RN 39 3 R from RN_s) ?_
  refine V_ret_v rfl (Nat.le_of_ble_eq_true rfl) (fun _ => Nat.le_refl _) (Nat.le_of_ble_eq_true rfl) (hq) dX4_init_29
theorem i_X0_43 {G : Gx} {d : Nat} {I : FI} {R : FR} {J : FJ} {Q : Po} (hz : Zr 44 I R) (hq : Q (.inl none) 50 (I) (RN 43 6 R) J) : Cc G mX0_init (d + 2) 6 1568 [rf G 43] 44 I R J Q := by
  show V _ _ _ _ _ _ _ _ [(0, rf G 43)] [] _ _ _ _ _
  refine V_rwR (RN_0 (o := 43)) ?_
  refine V_aload_n 1 0 rfl _ rfl rfl dX0_init_0 rfl ?_
  refine V_objInit 4 43 loX0 loI loC (Nat.le_of_ble_eq_true rfl) dX0_init_1 rfl ?_
  refine V_aload_n 5 0 rfl _ rfl rfl dX0_init_4 rfl ?_
  refine V_sipush 8 (1152) rfl dX0_init_5 rfl ?_
  refine V_newa 10 0 1152 (by decide) rfl ac_int rfl (by decide) (by decide) rfl (by decide) (Nat.le_of_ble_eq_true rfl) (Nat.le_of_ble_eq_true rfl) dX0_init_8 rfl ?_
  refine V_rwI (new_I (hz.1 44 (by decide))) ?_
  refine V_nks (n' := 45) (k' := 1) (sl' := 1152) rfl rfl rfl ?_
  refine V_putR 13 43 0 0 44 flX0_11 rfl rfl rfl (by decide) (Or.inr ⟨rfl, rfl, rfl, ffX0_11⟩) dX0_init_10 rfl ?_
  refine V_rwR (show _ = RN 43 1 R from RN_s) ?_
  refine V_aload_n 14 0 rfl _ rfl rfl dX0_init_13 rfl ?_
  refine V_bipush 16 (100) rfl dX0_init_14 rfl ?_
  refine V_newa 18 0 100 (by decide) rfl ac_int rfl (by decide) (by decide) rfl (by decide) (Nat.le_of_ble_eq_true rfl) (Nat.le_of_ble_eq_true rfl) dX0_init_16 rfl ?_
  refine V_rwI (new_I (hz.1 45 (by decide))) ?_
  refine V_nks (n' := 46) (k' := 2) (sl' := 1252) rfl rfl rfl ?_
  refine V_putR 21 43 0 1 45 flX0_15 rfl rfl rfl (by decide) (Or.inr ⟨rfl, rfl, rfl, ffX0_15⟩) dX0_init_18 rfl ?_
  refine V_rwR (show _ = RN 43 2 R from RN_s) ?_
  refine V_aload_n 22 0 rfl _ rfl rfl dX0_init_21 rfl ?_
  refine V_bipush 24 (48) rfl dX0_init_22 rfl ?_
  refine V_newa 26 0 48 (by decide) rfl ac_int rfl (by decide) (by decide) rfl (by decide) (Nat.le_of_ble_eq_true rfl) (Nat.le_of_ble_eq_true rfl) dX0_init_24 rfl ?_
  refine V_rwI (new_I (hz.1 46 (by decide))) ?_
  refine V_nks (n' := 47) (k' := 3) (sl' := 1300) rfl rfl rfl ?_
  refine V_putR 29 43 0 2 46 flX0_18 rfl rfl rfl (by decide) (Or.inr ⟨rfl, rfl, rfl, ffX0_18⟩) dX0_init_26 rfl ?_
  refine V_rwR (show _ = RN 43 3 R from RN_s) ?_
  refine V_aload_n 30 0 rfl _ rfl rfl dX0_init_29 rfl ?_
  refine V_sipush 33 (256) rfl dX0_init_30 rfl ?_
  refine V_newa 35 0 256 (by decide) rfl ac_int rfl (by decide) (by decide) rfl (by decide) (Nat.le_of_ble_eq_true rfl) (Nat.le_of_ble_eq_true rfl) dX0_init_33 rfl ?_
  refine V_rwI (new_I (hz.1 47 (by decide))) ?_
  refine V_nks (n' := 48) (k' := 4) (sl' := 1556) rfl rfl rfl ?_
  refine V_putR 38 43 0 3 47 flX0_21 rfl rfl rfl (by decide) (Or.inr ⟨rfl, rfl, rfl, ffX0_21⟩) dX0_init_35 rfl ?_
  refine V_rwR (show _ = RN 43 4 R from RN_s) ?_
  refine V_aload_n 39 0 rfl _ rfl rfl dX0_init_38 rfl ?_
  refine V_bipush 41 (6) rfl dX0_init_39 rfl ?_
  refine V_newa 43 0 6 (by decide) rfl ac_int rfl (by decide) (by decide) rfl (by decide) (Nat.le_of_ble_eq_true rfl) (Nat.le_of_ble_eq_true rfl) dX0_init_41 rfl ?_
  refine V_rwI (new_I (hz.1 48 (by decide))) ?_
  refine V_nks (n' := 49) (k' := 5) (sl' := 1562) rfl rfl rfl ?_
  refine V_putR 46 43 0 4 48 flX0_24 rfl rfl rfl (by decide) (Or.inr ⟨rfl, rfl, rfl, ffX0_24⟩) dX0_init_43 rfl ?_
  refine V_rwR (show _ = RN 43 5 R from RN_s) ?_
  refine V_aload_n 47 0 rfl _ rfl rfl dX0_init_46 rfl ?_
  refine V_bipush 49 (6) rfl dX0_init_47 rfl ?_
  refine V_newa 51 0 6 (by decide) rfl ac_int rfl (by decide) (by decide) rfl (by decide) (Nat.le_of_ble_eq_true rfl) (Nat.le_of_ble_eq_true rfl) dX0_init_49 rfl ?_
  refine V_rwI (new_I (hz.1 49 (by decide))) ?_
  refine V_nks (n' := 50) (k' := 6) (sl' := 1568) rfl rfl rfl ?_
  refine V_putR 54 43 0 5 49 flX0_27 rfl rfl rfl (by decide) (Or.inr ⟨rfl, rfl, rfl, ffX0_27⟩) dX0_init_51 rfl ?_
  refine V_rwR (show _ = RN 43 6 R from RN_s) ?_
  refine V_ret_v rfl (Nat.le_of_ble_eq_true rfl) (fun _ => Nat.le_refl _) (Nat.le_of_ble_eq_true rfl) (hq) dX0_init_54
theorem i_X6_50 {G : Gx} {d : Nat} {I : FI} {R : FR} {J : FJ} {Q : Po} (hz : Zr 51 I R) (hq : Q (.inl none) 51 I R J) : Cc G mX6_init (d + 2) 0 0 [rf G 50] 51 I R J Q := by
  show V _ _ _ _ _ _ _ _ [(0, rf G 50)] [] _ _ _ _ _
  refine V_aload_n 1 0 rfl _ rfl rfl dX6_init_0 rfl ?_
  refine V_objInit 4 50 loX6 loI loC (Nat.le_of_ble_eq_true rfl) dX6_init_1 rfl ?_
  refine V_ret_v rfl (Nat.le_of_ble_eq_true rfl) (fun _ => Nat.le_refl _) (Nat.le_of_ble_eq_true rfl) (hq) dX6_init_4
theorem i_X2_51 {G : Gx} {d : Nat} {I : FI} {R : FR} {J : FJ} {Q : Po} (hz : Zr 52 I R) (hq : Q (.inl none) 58 (I) (RN 51 6 R) J) : Cc G mX2_init (d + 2) 6 40 [rf G 51] 52 I R J Q := by
  show V _ _ _ _ _ _ _ _ [(0, rf G 51)] [] _ _ _ _ _
  refine V_rwR (RN_0 (o := 51)) ?_
  refine V_aload_n 1 0 rfl _ rfl rfl dX2_init_0 rfl ?_
  refine V_objInit 4 51 loX2 loI loC (Nat.le_of_ble_eq_true rfl) dX2_init_1 rfl ?_
  refine V_aload_n 5 0 rfl _ rfl rfl dX2_init_4 rfl ?_
  refine V_bipush 7 (8) rfl dX2_init_5 rfl ?_
  refine V_newa 9 0 8 (by decide) rfl ac_int rfl (by decide) (by decide) rfl (by decide) (Nat.le_of_ble_eq_true rfl) (Nat.le_of_ble_eq_true rfl) dX2_init_7 rfl ?_
  refine V_rwI (new_I (hz.1 52 (by decide))) ?_
  refine V_nks (n' := 53) (k' := 1) (sl' := 8) rfl rfl rfl ?_
  refine V_putR 12 51 2 0 52 flX2_9 rfl rfl rfl (by decide) (Or.inr ⟨rfl, rfl, rfl, ffX2_9⟩) dX2_init_9 rfl ?_
  refine V_rwR (show _ = RN 51 1 R from RN_s) ?_
  refine V_aload_n 13 0 rfl _ rfl rfl dX2_init_12 rfl ?_
  refine V_bipush 15 (8) rfl dX2_init_13 rfl ?_
  refine V_newa 17 0 8 (by decide) rfl ac_int rfl (by decide) (by decide) rfl (by decide) (Nat.le_of_ble_eq_true rfl) (Nat.le_of_ble_eq_true rfl) dX2_init_15 rfl ?_
  refine V_rwI (new_I (hz.1 53 (by decide))) ?_
  refine V_nks (n' := 54) (k' := 2) (sl' := 16) rfl rfl rfl ?_
  refine V_putR 20 51 2 1 53 flX2_15 rfl rfl rfl (by decide) (Or.inr ⟨rfl, rfl, rfl, ffX2_15⟩) dX2_init_17 rfl ?_
  refine V_rwR (show _ = RN 51 2 R from RN_s) ?_
  refine V_aload_n 21 0 rfl _ rfl rfl dX2_init_20 rfl ?_
  refine V_bipush 23 (6) rfl dX2_init_21 rfl ?_
  refine V_newa 25 0 6 (by decide) rfl ac_int rfl (by decide) (by decide) rfl (by decide) (Nat.le_of_ble_eq_true rfl) (Nat.le_of_ble_eq_true rfl) dX2_init_23 rfl ?_
  refine V_rwI (new_I (hz.1 54 (by decide))) ?_
  refine V_nks (n' := 55) (k' := 3) (sl' := 22) rfl rfl rfl ?_
  refine V_putR 28 51 2 2 54 flX2_18 rfl rfl rfl (by decide) (Or.inr ⟨rfl, rfl, rfl, ffX2_18⟩) dX2_init_25 rfl ?_
  refine V_rwR (show _ = RN 51 3 R from RN_s) ?_
  refine V_aload_n 29 0 rfl _ rfl rfl dX2_init_28 rfl ?_
  refine V_bipush 31 (6) rfl dX2_init_29 rfl ?_
  refine V_newa 33 0 6 (by decide) rfl ac_int rfl (by decide) (by decide) rfl (by decide) (Nat.le_of_ble_eq_true rfl) (Nat.le_of_ble_eq_true rfl) dX2_init_31 rfl ?_
  refine V_rwI (new_I (hz.1 55 (by decide))) ?_
  refine V_nks (n' := 56) (k' := 4) (sl' := 28) rfl rfl rfl ?_
  refine V_putR 36 51 2 3 55 flX2_21 rfl rfl rfl (by decide) (Or.inr ⟨rfl, rfl, rfl, ffX2_21⟩) dX2_init_33 rfl ?_
  refine V_rwR (show _ = RN 51 4 R from RN_s) ?_
  refine V_aload_n 37 0 rfl _ rfl rfl dX2_init_36 rfl ?_
  refine V_bipush 39 (6) rfl dX2_init_37 rfl ?_
  refine V_newa 41 0 6 (by decide) rfl ac_int rfl (by decide) (by decide) rfl (by decide) (Nat.le_of_ble_eq_true rfl) (Nat.le_of_ble_eq_true rfl) dX2_init_39 rfl ?_
  refine V_rwI (new_I (hz.1 56 (by decide))) ?_
  refine V_nks (n' := 57) (k' := 5) (sl' := 34) rfl rfl rfl ?_
  refine V_putR 44 51 2 4 56 flX2_24 rfl rfl rfl (by decide) (Or.inr ⟨rfl, rfl, rfl, ffX2_24⟩) dX2_init_41 rfl ?_
  refine V_rwR (show _ = RN 51 5 R from RN_s) ?_
  refine V_aload_n 45 0 rfl _ rfl rfl dX2_init_44 rfl ?_
  refine V_bipush 47 (6) rfl dX2_init_45 rfl ?_
  refine V_newa 49 0 6 (by decide) rfl ac_int rfl (by decide) (by decide) rfl (by decide) (Nat.le_of_ble_eq_true rfl) (Nat.le_of_ble_eq_true rfl) dX2_init_47 rfl ?_
  refine V_rwI (new_I (hz.1 57 (by decide))) ?_
  refine V_nks (n' := 58) (k' := 6) (sl' := 40) rfl rfl rfl ?_
  refine V_putR 52 51 2 5 57 flX2_27 rfl rfl rfl (by decide) (Or.inr ⟨rfl, rfl, rfl, ffX2_27⟩) dX2_init_49 rfl ?_
  refine V_rwR (show _ = RN 51 6 R from RN_s) ?_
  refine V_ret_v rfl (Nat.le_of_ble_eq_true rfl) (fun _ => Nat.le_refl _) (Nat.le_of_ble_eq_true rfl) (hq) dX2_init_52
theorem i_X5_58 {G : Gx} {d : Nat} {I : FI} {R : FR} {J : FJ} {Q : Po} (hz : Zr 59 I R) (hq : ∀ I', LawC I' 58 stdF → FrL I I' 58 → Q (.inl none) 63 I' (RN 58 4 R) J) : Cc G mX5_init (d + 2) 4 600 [rf G 58] 59 I R J Q := by
  show V _ _ _ _ _ _ _ _ [(0, rf G 58)] [] _ _ _ _ _
  refine V_rwR (RN_0 (o := 58)) ?_
  refine V_aload_n 1 0 rfl _ rfl rfl dX5_init_0 rfl ?_
  refine V_objInit 4 58 loX5 loI loC (Nat.le_of_ble_eq_true rfl) dX5_init_1 rfl ?_
  refine V_aload_n 5 0 rfl _ rfl rfl dX5_init_4 rfl ?_
  refine V_sipush 8 (150) rfl dX5_init_5 rfl ?_
  refine V_newa 10 0 150 (by decide) rfl ac_int rfl (by decide) (by decide) rfl (by decide) (Nat.le_of_ble_eq_true rfl) (Nat.le_of_ble_eq_true rfl) dX5_init_8 rfl ?_
  refine V_rwI (new_I (hz.1 59 (by decide))) ?_
  refine V_nks (n' := 60) (k' := 1) (sl' := 150) rfl rfl rfl ?_
  refine V_putR 13 58 5 0 59 flX5_9 rfl rfl rfl (by decide) (Or.inr ⟨rfl, rfl, rfl, ffX5_9⟩) dX5_init_10 rfl ?_
  refine V_rwR (show _ = RN 58 1 R from RN_s) ?_
  refine V_aload_n 14 0 rfl _ rfl rfl dX5_init_13 rfl ?_
  refine V_sipush 17 (150) rfl dX5_init_14 rfl ?_
  refine V_newa 19 0 150 (by decide) rfl ac_int rfl (by decide) (by decide) rfl (by decide) (Nat.le_of_ble_eq_true rfl) (Nat.le_of_ble_eq_true rfl) dX5_init_17 rfl ?_
  refine V_rwI (new_I (hz.1 60 (by decide))) ?_
  refine V_nks (n' := 61) (k' := 2) (sl' := 300) rfl rfl rfl ?_
  refine V_putR 22 58 5 1 60 flX5_15 rfl rfl rfl (by decide) (Or.inr ⟨rfl, rfl, rfl, ffX5_15⟩) dX5_init_19 rfl ?_
  refine V_rwR (show _ = RN 58 2 R from RN_s) ?_
  refine V_aload_n 23 0 rfl _ rfl rfl dX5_init_22 rfl ?_
  refine V_sipush 26 (150) rfl dX5_init_23 rfl ?_
  refine V_newa 28 0 150 (by decide) rfl ac_int rfl (by decide) (by decide) rfl (by decide) (Nat.le_of_ble_eq_true rfl) (Nat.le_of_ble_eq_true rfl) dX5_init_26 rfl ?_
  refine V_rwI (new_I (hz.1 61 (by decide))) ?_
  refine V_nks (n' := 62) (k' := 3) (sl' := 450) rfl rfl rfl ?_
  refine V_putR 31 58 5 2 61 flX5_18 rfl rfl rfl (by decide) (Or.inr ⟨rfl, rfl, rfl, ffX5_18⟩) dX5_init_28 rfl ?_
  refine V_rwR (show _ = RN 58 3 R from RN_s) ?_
  refine V_aload_n 32 0 rfl _ rfl rfl dX5_init_31 rfl ?_
  refine V_sipush 35 (150) rfl dX5_init_32 rfl ?_
  refine V_newa 37 0 150 (by decide) rfl ac_int rfl (by decide) (by decide) rfl (by decide) (Nat.le_of_ble_eq_true rfl) (Nat.le_of_ble_eq_true rfl) dX5_init_35 rfl ?_
  refine V_rwI (new_I (hz.1 62 (by decide))) ?_
  refine V_nks (n' := 63) (k' := 4) (sl' := 600) rfl rfl rfl ?_
  refine V_putR 40 58 5 3 62 flX5_21 rfl rfl rfl (by decide) (Or.inr ⟨rfl, rfl, rfl, ffX5_21⟩) dX5_init_37 rfl ?_
  refine V_rwR (show _ = RN 58 4 R from RN_s) ?_
  refine V_aload_n 41 0 rfl _ rfl rfl dX5_init_40 rfl ?_
  refine V_callV (K' := 0) (S' := 0) 44 58 5 0 [] mkX5_beStandard lkX5_24 (by decide) rfl rfl (by decide) rfl (Nat.le_of_ble_eq_true rfl) (Nat.le_of_ble_eq_true rfl) (Nat.le_of_ble_eq_true rfl) (Nat.le_of_ble_eq_true rfl) rfl rfl dX5_init_41 rfl (c_X5_beStandard (n := 63) (l := 58) (by decide) rfl rfl rfl (Or.inr rfl) (fun I2 hL2 hF2 => ?_))
  refine Kq_v (k' := 4) (sl' := 600) rfl rfl ?_
  refine V_ret_v rfl (Nat.le_of_ble_eq_true rfl) (fun _ => Nat.le_refl _) (Nat.le_of_ble_eq_true rfl) (hq I2 hL2 hF2) dX5_init_44
theorem i_X1_63 {G : Gx} {d : Nat} {I : FI} {R : FR} {J : FJ} {Q : Po} (hz : Zr 64 I R) (hq : Q (.inl none) 66 (I) (RN 63 2 R) J) : Cc G mX1_init (d + 2) 2 16 [rf G 63] 64 I R J Q := by
  show V _ _ _ _ _ _ _ _ [(0, rf G 63)] [] _ _ _ _ _
  refine V_rwR (RN_0 (o := 63)) ?_
  refine V_aload_n 1 0 rfl _ rfl rfl dX1_init_0 rfl ?_
  refine V_objInit 4 63 loX1 loI loC (Nat.le_of_ble_eq_true rfl) dX1_init_1 rfl ?_
  refine V_aload_n 5 0 rfl _ rfl rfl dX1_init_4 rfl ?_
  refine V_bipush 7 (8) rfl dX1_init_5 rfl ?_
  refine V_newa 9 0 8 (by decide) rfl ac_int rfl (by decide) (by decide) rfl (by decide) (Nat.le_of_ble_eq_true rfl) (Nat.le_of_ble_eq_true rfl) dX1_init_7 rfl ?_
  refine V_rwI (new_I (hz.1 64 (by decide))) ?_
  refine V_nks (n' := 65) (k' := 1) (sl' := 8) rfl rfl rfl ?_
  refine V_putR 12 63 1 0 64 flX1_11 rfl rfl rfl (by decide) (Or.inr ⟨rfl, rfl, rfl, ffX1_11⟩) dX1_init_9 rfl ?_
  refine V_rwR (show _ = RN 63 1 R from RN_s) ?_
  refine V_aload_n 13 0 rfl _ rfl rfl dX1_init_12 rfl ?_
  refine V_bipush 15 (8) rfl dX1_init_13 rfl ?_
  refine V_newa 17 0 8 (by decide) rfl ac_int rfl (by decide) (by decide) rfl (by decide) (Nat.le_of_ble_eq_true rfl) (Nat.le_of_ble_eq_true rfl) dX1_init_15 rfl ?_
  refine V_rwI (new_I (hz.1 65 (by decide))) ?_
  refine V_nks (n' := 66) (k' := 2) (sl' := 16) rfl rfl rfl ?_
  refine V_putR 20 63 1 1 65 flX1_15 rfl rfl rfl (by decide) (Or.inr ⟨rfl, rfl, rfl, ffX1_15⟩) dX1_init_17 rfl ?_
  refine V_rwR (show _ = RN 63 2 R from RN_s) ?_
  refine V_ret_v rfl (Nat.le_of_ble_eq_true rfl) (fun _ => Nat.le_refl _) (Nat.le_of_ble_eq_true rfl) (hq) dX1_init_20
theorem i_X1_66 {G : Gx} {d : Nat} {I : FI} {R : FR} {J : FJ} {Q : Po} (hz : Zr 67 I R) (hq : Q (.inl none) 69 (I) (RN 66 2 R) J) : Cc G mX1_init (d + 2) 2 16 [rf G 66] 67 I R J Q := by
  show V _ _ _ _ _ _ _ _ [(0, rf G 66)] [] _ _ _ _ _
  refine V_rwR (RN_0 (o := 66)) ?_
  refine V_aload_n 1 0 rfl _ rfl rfl dX1_init_0 rfl ?_
  refine V_objInit 4 66 loX1 loI loC (Nat.le_of_ble_eq_true rfl) dX1_init_1 rfl ?_
  refine V_aload_n 5 0 rfl _ rfl rfl dX1_init_4 rfl ?_
  refine V_bipush 7 (8) rfl dX1_init_5 rfl ?_
  refine V_newa 9 0 8 (by decide) rfl ac_int rfl (by decide) (by decide) rfl (by decide) (Nat.le_of_ble_eq_true rfl) (Nat.le_of_ble_eq_true rfl) dX1_init_7 rfl ?_
  refine V_rwI (new_I (hz.1 67 (by decide))) ?_
  refine V_nks (n' := 68) (k' := 1) (sl' := 8) rfl rfl rfl ?_
  refine V_putR 12 66 1 0 67 flX1_11 rfl rfl rfl (by decide) (Or.inr ⟨rfl, rfl, rfl, ffX1_11⟩) dX1_init_9 rfl ?_
  refine V_rwR (show _ = RN 66 1 R from RN_s) ?_
  refine V_aload_n 13 0 rfl _ rfl rfl dX1_init_12 rfl ?_
  refine V_bipush 15 (8) rfl dX1_init_13 rfl ?_
  refine V_newa 17 0 8 (by decide) rfl ac_int rfl (by decide) (by decide) rfl (by decide) (Nat.le_of_ble_eq_true rfl) (Nat.le_of_ble_eq_true rfl) dX1_init_15 rfl ?_
  refine V_rwI (new_I (hz.1 68 (by decide))) ?_
  refine V_nks (n' := 69) (k' := 2) (sl' := 16) rfl rfl rfl ?_
  refine V_putR 20 66 1 1 68 flX1_15 rfl rfl rfl (by decide) (Or.inr ⟨rfl, rfl, rfl, ffX1_15⟩) dX1_init_17 rfl ?_
  refine V_rwR (show _ = RN 66 2 R from RN_s) ?_
  refine V_ret_v rfl (Nat.le_of_ble_eq_true rfl) (fun _ => Nat.le_refl _) (Nat.le_of_ble_eq_true rfl) (hq) dX1_init_20
theorem i_X7_3 {G : Gx} {d : Nat} {I : FI} {R : FR} {J : FJ} {Q : Po} (hz : Zr 4 I R) (hq : ∀ I', LawC I' 11 stdF → FrL I I' 11 → Q (.inl none) 18 I' (upR (upR (upR (RN 11 4 (upR (RN 4 6 R) 3 0 (some 4))) 3 1 (some 11)) 3 2 (some 16)) 3 3 (some 17)) J) : Cc G mX7_init (d + 4) 14 668 [rf G 3] 4 I R J Q := by
  show V _ _ _ _ _ _ _ _ [(0, rf G 3)] [] _ _ _ _ _
  refine V_aload_n 1 0 rfl _ rfl rfl dX7_init_0 rfl ?_
  refine V_objInit 4 3 loX7 loI loC (Nat.le_of_ble_eq_true rfl) dX7_init_1 rfl ?_
  refine V_aload_n 5 0 rfl _ rfl rfl dX7_init_4 rfl ?_
  refine V_new 8 2 nkX7_9.1 nkX7_9.2.1 nkX7_9.2.2 (by decide) rfl (by decide) (Nat.le_of_ble_eq_true rfl) (Nat.le_of_ble_eq_true rfl) dX7_init_5 rfl ?_
  refine V_rwI (new_I (hz.1 4 (by decide))) ?_
  refine V_rwR (new_R (hz.2 4 (by decide))) ?_
  refine V_nks (n' := 5) (k' := 1) (sl' := 9) rfl rfl rfl ?_
  refine V_dup 9 rfl dX7_init_8 rfl ?_
  refine V_callI (K' := 6) (S' := 40) 12 4 0 [] mkX2_init rfl lkX7_11 rfl (Nat.le_of_ble_eq_true rfl) (Nat.le_of_ble_eq_true rfl) (Nat.le_of_ble_eq_true rfl) (Nat.le_of_ble_eq_true rfl) rfl rfl dX7_init_9 rfl (fun o n1 I1 R1 J1 => o = .inl none ∧ 11 = n1 ∧ I = I1 ∧ RN 4 6 R = R1 ∧ J = J1) (fun _ _ _ _ _ h => absurd h.1 (fun e => nomatch e)) (fun v n' I' R' J' h => ?_) (i_X2_4 (hz.mo (by decide)) ⟨rfl, rfl, rfl, rfl, rfl⟩)
  obtain ⟨hv, rfl, rfl, rfl, rfl⟩ := h
  cases hv
  have z1 := (hz.mo (n' := 11) (by decide)).RN (o := 4) (m := 6) (by decide)
  refine V_nks (n' := 11) (k' := 7) (sl' := 49) rfl rfl rfl ?_
  refine V_putR 15 3 7 0 4 flX7_12 rfl rfl rfl (by decide) (Or.inl rfl) dX7_init_12 rfl ?_
  have z2 := z1.R (o := 3) (k := 0) (v := (some 4)) (by decide)
  refine V_aload_n 16 0 rfl _ rfl rfl dX7_init_15 rfl ?_
  refine V_new 19 5 nkX7_18.1 nkX7_18.2.1 nkX7_18.2.2 (by decide) rfl (by decide) (Nat.le_of_ble_eq_true rfl) (Nat.le_of_ble_eq_true rfl) dX7_init_16 rfl ?_
  refine V_rwI (new_I (z2.1 11 (by decide))) ?_
  refine V_rwR (new_R (z2.2 11 (by decide))) ?_
  refine V_nks (n' := 12) (k' := 8) (sl' := 54) rfl rfl rfl ?_
  refine V_dup 20 rfl dX7_init_19 rfl ?_
  refine V_callI (K' := 4) (S' := 600) 23 11 0 [] mkX5_init rfl lkX7_20 rfl (Nat.le_of_ble_eq_true rfl) (Nat.le_of_ble_eq_true rfl) (Nat.le_of_ble_eq_true rfl) (Nat.le_of_ble_eq_true rfl) rfl rfl dX7_init_20 rfl (fun o n1 I1 R1 J1 => o = .inl none ∧ 16 = n1 ∧ (LawC I1 11 stdF ∧ FrL I I1 11) ∧ RN 11 4 (upR (RN 4 6 R) 3 0 (some 4)) = R1 ∧ J = J1) (fun _ _ _ _ _ h => absurd h.1 (fun e => nomatch e)) (fun v n' IL11 R' J' h => ?_) (i_X5_11 (z2.mo (by decide)) (fun _ a b => ⟨rfl, rfl, ⟨a, b⟩, rfl, rfl⟩))
  obtain ⟨hv, rfl, ⟨hL11, hF11⟩, rfl, rfl⟩ := h
  cases hv
  have z3 := ((z2.mo (n' := 16) (by decide)).I (fun a ha => hF11 a (by omega))).RN (o := 11) (m := 4) (by decide)
  refine V_nks (n' := 16) (k' := 12) (sl' := 654) rfl rfl rfl ?_
  refine V_putR 26 3 7 1 11 flX7_21 rfl rfl rfl (by decide) (Or.inl rfl) dX7_init_23 rfl ?_
  have z4 := z3.R (o := 3) (k := 1) (v := (some 11)) (by decide)
  refine V_aload_n 27 0 rfl _ rfl rfl dX7_init_26 rfl ?_
  refine V_bipush 29 (8) rfl dX7_init_27 rfl ?_
  refine V_newa 31 0 8 (by decide) rfl ac_int rfl (by decide) (by decide) rfl (by decide) (Nat.le_of_ble_eq_true rfl) (Nat.le_of_ble_eq_true rfl) dX7_init_29 rfl ?_
  refine V_rwI (new_I (z4.1 16 (by decide))) ?_
  refine V_nks (n' := 17) (k' := 13) (sl' := 662) rfl rfl rfl ?_
  refine V_putR 34 3 7 2 16 flX7_25 rfl rfl rfl (by decide) (Or.inr ⟨rfl, rfl, rfl, ffX7_25⟩) dX7_init_31 rfl ?_
  have z5 := z4.R (o := 3) (k := 2) (v := (some 16)) (by decide)
  refine V_aload_n 35 0 rfl _ rfl rfl dX7_init_34 rfl ?_
  refine V_bipush 37 (6) rfl dX7_init_35 rfl ?_
  refine V_newa 39 0 6 (by decide) rfl ac_int rfl (by decide) (by decide) rfl (by decide) (Nat.le_of_ble_eq_true rfl) (Nat.le_of_ble_eq_true rfl) dX7_init_37 rfl ?_
  refine V_rwI (new_I (z5.1 17 (by decide))) ?_
  refine V_nks (n' := 18) (k' := 14) (sl' := 668) rfl rfl rfl ?_
  refine V_putR 42 3 7 3 17 flX7_29 rfl rfl rfl (by decide) (Or.inr ⟨rfl, rfl, rfl, ffX7_29⟩) dX7_init_39 rfl ?_
  have z6 := z5.R (o := 3) (k := 3) (v := (some 17)) (by decide)
  refine V_ret_v rfl (Nat.le_of_ble_eq_true rfl) (fun _ => Nat.le_refl _) (Nat.le_of_ble_eq_true rfl) (hq IL11 hL11 hF11) dX7_init_42
def RF : FR := upR (RN 66 2 (upR (RN 63 2 (upR (RN 58 4 (upR (RN 51 6 (upR (upR (RN 43 6 (upR (RN 39 3 (upR (RN 34 4 (upR (RN 26 7 (upR (RN 18 7 (upR (upR (upR (upR (RN 11 4 (upR (RN 4 6 (upR (RN 1 1 (fun _ _ => none)) 0 0 (some 1))) 3 0 (some 4))) 3 1 (some 11)) 3 2 (some 16)) 3 3 (some 17)) 0 1 (some 3))) 0 2 (some 18))) 0 3 (some 26))) 0 4 (some 34))) 0 5 (some 39))) 0 6 (some 43)) 0 7 (some 50))) 0 8 (some 51))) 0 9 (some 58))) 0 10 (some 63))) 0 11 (some 66)
theorem RF_ok : ∀ o, o < 69 → ∀ k, k < 15 → RF o k = refC 4 11 63 o k := by decide +kernel
theorem RF_02 : RF 0 2 = some 18 := by decide +kernel
theorem RF_01 : RF 0 1 = some 3 := by decide +kernel
theorem RF_30 : RF 3 0 = some 4 := by decide +kernel
theorem RF_42 : RF 4 2 = some (4 + 3) := by decide +kernel
theorem RF_18 : ∀ k, k < 7 → RF 18 k = some (19 + k) := by decide +kernel
theorem RF_69 : RF 69 = fun _ => none := rfl
theorem i_X10 {G : Gx} {d : Nat} {J : FJ} {Q : Po} (hq : ∀ I', LawC I' 11 stdF → DayC I' 18 (day0 K0) → (∀ a, a ≠ 1 → (a < 11 ∨ 14 < a) → (a < 58 ∨ 61 < a) → (a < 18 ∨ 25 < a) → I' a = fun _ => 0) → I' 1 = upd (fun _ => 0) 8 (-1) → Q (.inl none) 69 I' RF J) : Cc G mX10_init (d + 10) 68 6881 [rf G 0] 1 (fun _ _ => 0) (fun _ _ => none) J Q := by
  have hz0 : Zr 1 (fun _ _ => 0) (fun _ _ => none) := ⟨fun _ _ => rfl, fun _ _ => rfl⟩
  show V _ _ _ _ _ _ _ _ [(0, rf G 0)] [] _ _ _ _ _
  refine V_aload_n 1 0 rfl _ rfl rfl dX10_init_0 rfl ?_
  refine V_objInit 4 0 loX10 loI loC (Nat.le_of_ble_eq_true rfl) dX10_init_1 rfl ?_
  refine V_aload_n 5 0 rfl _ rfl rfl dX10_init_4 rfl ?_
  refine V_new 8 8 nkX10_7.1 nkX10_7.2.1 nkX10_7.2.2 (by decide) rfl (by decide) (Nat.le_of_ble_eq_true rfl) (Nat.le_of_ble_eq_true rfl) dX10_init_5 rfl ?_
  refine V_rwI (new_I (hz0.1 1 (by decide))) ?_
  refine V_rwR (new_R (hz0.2 1 (by decide))) ?_
  refine V_nks (n' := 2) (k' := 1) (sl' := 9) rfl rfl rfl ?_
  refine V_dup 9 rfl dX10_init_8 rfl ?_
  refine V_callI (K' := 1) (S' := 600) 12 1 0 [] mkX8_init rfl lkX10_9 rfl (Nat.le_of_ble_eq_true rfl) (Nat.le_of_ble_eq_true rfl) (Nat.le_of_ble_eq_true rfl) (Nat.le_of_ble_eq_true rfl) rfl rfl dX10_init_9 rfl (fun o n1 I1 R1 J1 => o = .inl none ∧ 3 = n1 ∧ up2 (fun _ _ => 0) 1 8 (-1) = I1 ∧ RN 1 1 (fun _ _ => none) = R1 ∧ J = J1) (fun _ _ _ _ _ h => absurd h.1 (fun e => nomatch e)) (fun v n' I' R' J' h => ?_) (i_X8_1 (hz0.mo (by decide)) ⟨rfl, rfl, rfl, rfl, rfl⟩)
  obtain ⟨hv, rfl, rfl, rfl, rfl⟩ := h
  cases hv
  have z7 := ((hz0.mo (n' := 3) (by decide)).I (I' := up2 (fun _ _ => 0) 1 8 (-1)) (fun a ha => up2_n _ _ _ (by omega))).RN (o := 1) (m := 1) (by decide)
  refine V_nks (n' := 3) (k' := 2) (sl' := 609) rfl rfl rfl ?_
  refine V_putR 15 0 10 0 1 flX10_10 rfl rfl rfl (by decide) (Or.inr ⟨rfl, rfl, rfl, ffX10_10⟩) dX10_init_12 rfl ?_
  have z8 := z7.R (o := 0) (k := 0) (v := (some 1)) (by decide)
  refine V_aload_n 16 0 rfl _ rfl rfl dX10_init_15 rfl ?_
  refine V_new 19 7 nkX10_16.1 nkX10_16.2.1 nkX10_16.2.2 (by decide) rfl (by decide) (Nat.le_of_ble_eq_true rfl) (Nat.le_of_ble_eq_true rfl) dX10_init_16 rfl ?_
  refine V_rwI (new_I (z8.1 3 (by decide))) ?_
  refine V_rwR (new_R (z8.2 3 (by decide))) ?_
  refine V_nks (n' := 4) (k' := 3) (sl' := 613) rfl rfl rfl ?_
  refine V_dup 20 rfl dX10_init_19 rfl ?_
  refine V_callI (K' := 14) (S' := 668) 23 3 0 [] mkX7_init rfl lkX10_18 rfl (Nat.le_of_ble_eq_true rfl) (Nat.le_of_ble_eq_true rfl) (Nat.le_of_ble_eq_true rfl) (Nat.le_of_ble_eq_true rfl) rfl rfl dX10_init_20 rfl (fun o n1 I1 R1 J1 => o = .inl none ∧ 18 = n1 ∧ (LawC I1 11 stdF ∧ FrL (up2 (fun _ _ => 0) 1 8 (-1)) I1 11) ∧ upR (upR (upR (RN 11 4 (upR (RN 4 6 (upR (RN 1 1 (fun _ _ => none)) 0 0 (some 1))) 3 0 (some 4))) 3 1 (some 11)) 3 2 (some 16)) 3 3 (some 17) = R1 ∧ J = J1) (fun _ _ _ _ _ h => absurd h.1 (fun e => nomatch e)) (fun v n' IL11 R' J' h => ?_) (i_X7_3 (z8.mo (by decide)) (fun _ a b => ⟨rfl, rfl, ⟨a, b⟩, rfl, rfl⟩))
  obtain ⟨hv, rfl, ⟨hL11, hF11⟩, rfl, rfl⟩ := h
  cases hv
  have z9 := (((((((z8.mo (n' := 18) (by decide)).I (fun a ha => hF11 a (by omega))).RN (o := 4) (m := 6) (by decide)).R (o := 3) (k := 0) (v := some 4) (by decide)).RN (o := 11) (m := 4) (by decide)).R (o := 3) (k := 1) (v := some 11) (by decide)).R (o := 3) (k := 2) (v := some 16) (by decide)).R (o := 3) (k := 3) (v := some 17) (by decide)
  refine V_nks (n' := 18) (k' := 17) (sl' := 1281) rfl rfl rfl ?_
  refine V_putR 26 0 10 1 3 flX10_19 rfl rfl rfl (by decide) (Or.inr ⟨rfl, rfl, rfl, ffX10_19⟩) dX10_init_23 rfl ?_
  have z10 := z9.R (o := 0) (k := 1) (v := (some 3)) (by decide)
  refine V_aload_n 27 0 rfl _ rfl rfl dX10_init_26 rfl ?_
  refine V_new 30 3 nkX10_23.1 nkX10_23.2.1 nkX10_23.2.2 (by decide) rfl (by decide) (Nat.le_of_ble_eq_true rfl) (Nat.le_of_ble_eq_true rfl) dX10_init_27 rfl ?_
  refine V_rwI (new_I (z10.1 18 (by decide))) ?_
  refine V_rwR (new_R (z10.2 18 (by decide))) ?_
  refine V_nks (n' := 19) (k' := 18) (sl' := 1290) rfl rfl rfl ?_
  refine V_dup 31 rfl dX10_init_30 rfl ?_
  refine V_callI (K' := 7) (S' := 44) 34 18 0 [] mkX3_init rfl lkX10_25 rfl (Nat.le_of_ble_eq_true rfl) (Nat.le_of_ble_eq_true rfl) (Nat.le_of_ble_eq_true rfl) (Nat.le_of_ble_eq_true rfl) rfl rfl dX10_init_31 rfl (fun o n1 I1 R1 J1 => o = .inl none ∧ 26 = n1 ∧ IL11 = I1 ∧ RN 18 7 (upR (upR (upR (upR (RN 11 4 (upR (RN 4 6 (upR (RN 1 1 (fun _ _ => none)) 0 0 (some 1))) 3 0 (some 4))) 3 1 (some 11)) 3 2 (some 16)) 3 3 (some 17)) 0 1 (some 3)) = R1 ∧ J = J1) (fun _ _ _ _ _ h => absurd h.1 (fun e => nomatch e)) (fun v n' I' R' J' h => ?_) (i_X3_18 (z10.mo (by decide)) ⟨rfl, rfl, rfl, rfl, rfl⟩)
  obtain ⟨hv, rfl, rfl, rfl, rfl⟩ := h
  cases hv
  have z11 := (z10.mo (n' := 26) (by decide)).RN (o := 18) (m := 7) (by decide)
  refine V_nks (n' := 26) (k' := 25) (sl' := 1334) rfl rfl rfl ?_
  refine V_putR 37 0 10 2 18 flX10_26 rfl rfl rfl (by decide) (Or.inr ⟨rfl, rfl, rfl, ffX10_26⟩) dX10_init_34 rfl ?_
  have z12 := z11.R (o := 0) (k := 2) (v := (some 18)) (by decide)
  refine V_aload_n 38 0 rfl _ rfl rfl dX10_init_37 rfl ?_
  refine V_new 41 3 nkX10_23.1 nkX10_23.2.1 nkX10_23.2.2 (by decide) rfl (by decide) (Nat.le_of_ble_eq_true rfl) (Nat.le_of_ble_eq_true rfl) dX10_init_38 rfl ?_
  refine V_rwI (new_I (z12.1 26 (by decide))) ?_
  refine V_rwR (new_R (z12.2 26 (by decide))) ?_
  refine V_nks (n' := 27) (k' := 26) (sl' := 1343) rfl rfl rfl ?_
  refine V_dup 42 rfl dX10_init_41 rfl ?_
  refine V_callI (K' := 7) (S' := 44) 45 26 0 [] mkX3_init rfl lkX10_25 rfl (Nat.le_of_ble_eq_true rfl) (Nat.le_of_ble_eq_true rfl) (Nat.le_of_ble_eq_true rfl) (Nat.le_of_ble_eq_true rfl) rfl rfl dX10_init_42 rfl (fun o n1 I1 R1 J1 => o = .inl none ∧ 34 = n1 ∧ IL11 = I1 ∧ RN 26 7 (upR (RN 18 7 (upR (upR (upR (upR (RN 11 4 (upR (RN 4 6 (upR (RN 1 1 (fun _ _ => none)) 0 0 (some 1))) 3 0 (some 4))) 3 1 (some 11)) 3 2 (some 16)) 3 3 (some 17)) 0 1 (some 3))) 0 2 (some 18)) = R1 ∧ J = J1) (fun _ _ _ _ _ h => absurd h.1 (fun e => nomatch e)) (fun v n' I' R' J' h => ?_) (i_X3_26 (z12.mo (by decide)) ⟨rfl, rfl, rfl, rfl, rfl⟩)
  obtain ⟨hv, rfl, rfl, rfl, rfl⟩ := h
  cases hv
  have z13 := (z12.mo (n' := 34) (by decide)).RN (o := 26) (m := 7) (by decide)
  refine V_nks (n' := 34) (k' := 33) (sl' := 1387) rfl rfl rfl ?_
  refine V_putR 48 0 10 3 26 flX10_30 rfl rfl rfl (by decide) (Or.inr ⟨rfl, rfl, rfl, ffX10_30⟩) dX10_init_45 rfl ?_
  have z14 := z13.R (o := 0) (k := 3) (v := (some 26)) (by decide)
  refine V_aload_n 49 0 rfl _ rfl rfl dX10_init_48 rfl ?_
  refine V_new 52 9 nkX10_33.1 nkX10_33.2.1 nkX10_33.2.2 (by decide) rfl (by decide) (Nat.le_of_ble_eq_true rfl) (Nat.le_of_ble_eq_true rfl) dX10_init_49 rfl ?_
  refine V_rwI (new_I (z14.1 34 (by decide))) ?_
  refine V_rwR (new_R (z14.2 34 (by decide))) ?_
  refine V_nks (n' := 35) (k' := 34) (sl' := 1395) rfl rfl rfl ?_
  refine V_dup 53 rfl dX10_init_52 rfl ?_
  refine V_callI (K' := 4) (S' := 124) 56 34 0 [] mkX9_init rfl lkX10_35 rfl (Nat.le_of_ble_eq_true rfl) (Nat.le_of_ble_eq_true rfl) (Nat.le_of_ble_eq_true rfl) (Nat.le_of_ble_eq_true rfl) rfl rfl dX10_init_53 rfl (fun o n1 I1 R1 J1 => o = .inl none ∧ 39 = n1 ∧ IL11 = I1 ∧ RN 34 4 (upR (RN 26 7 (upR (RN 18 7 (upR (upR (upR (upR (RN 11 4 (upR (RN 4 6 (upR (RN 1 1 (fun _ _ => none)) 0 0 (some 1))) 3 0 (some 4))) 3 1 (some 11)) 3 2 (some 16)) 3 3 (some 17)) 0 1 (some 3))) 0 2 (some 18))) 0 3 (some 26)) = R1 ∧ J = J1) (fun _ _ _ _ _ h => absurd h.1 (fun e => nomatch e)) (fun v n' I' R' J' h => ?_) (i_X9_34 (z14.mo (by decide)) ⟨rfl, rfl, rfl, rfl, rfl⟩)
  obtain ⟨hv, rfl, rfl, rfl, rfl⟩ := h
  cases hv
  have z15 := (z14.mo (n' := 39) (by decide)).RN (o := 34) (m := 4) (by decide)
  refine V_nks (n' := 39) (k' := 38) (sl' := 1519) rfl rfl rfl ?_
  refine V_putR 59 0 10 4 34 flX10_36 rfl rfl rfl (by decide) (Or.inr ⟨rfl, rfl, rfl, ffX10_36⟩) dX10_init_56 rfl ?_
  have z16 := z15.R (o := 0) (k := 4) (v := (some 34)) (by decide)
  refine V_aload_n 60 0 rfl _ rfl rfl dX10_init_59 rfl ?_
  refine V_new 63 4 nkX10_40.1 nkX10_40.2.1 nkX10_40.2.2 (by decide) rfl (by decide) (Nat.le_of_ble_eq_true rfl) (Nat.le_of_ble_eq_true rfl) dX10_init_60 rfl ?_
  refine V_rwI (new_I (z16.1 39 (by decide))) ?_
  refine V_rwR (new_R (z16.2 39 (by decide))) ?_
  refine V_nks (n' := 40) (k' := 39) (sl' := 1524) rfl rfl rfl ?_
  refine V_dup 64 rfl dX10_init_63 rfl ?_
  refine V_callI (K' := 3) (S' := 3085) 67 39 0 [] mkX4_init rfl lkX10_42 rfl (Nat.le_of_ble_eq_true rfl) (Nat.le_of_ble_eq_true rfl) (Nat.le_of_ble_eq_true rfl) (Nat.le_of_ble_eq_true rfl) rfl rfl dX10_init_64 rfl (fun o n1 I1 R1 J1 => o = .inl none ∧ 43 = n1 ∧ IL11 = I1 ∧ RN 39 3 (upR (RN 34 4 (upR (RN 26 7 (upR (RN 18 7 (upR (upR (upR (upR (RN 11 4 (upR (RN 4 6 (upR (RN 1 1 (fun _ _ => none)) 0 0 (some 1))) 3 0 (some 4))) 3 1 (some 11)) 3 2 (some 16)) 3 3 (some 17)) 0 1 (some 3))) 0 2 (some 18))) 0 3 (some 26))) 0 4 (some 34)) = R1 ∧ J = J1) (fun _ _ _ _ _ h => absurd h.1 (fun e => nomatch e)) (fun v n' I' R' J' h => ?_) (i_X4_39 (z16.mo (by decide)) ⟨rfl, rfl, rfl, rfl, rfl⟩)
  obtain ⟨hv, rfl, rfl, rfl, rfl⟩ := h
  cases hv
  have z17 := (z16.mo (n' := 43) (by decide)).RN (o := 39) (m := 3) (by decide)
  refine V_nks (n' := 43) (k' := 42) (sl' := 4609) rfl rfl rfl ?_
  refine V_putR 70 0 10 5 39 flX10_43 rfl rfl rfl (by decide) (Or.inr ⟨rfl, rfl, rfl, ffX10_43⟩) dX10_init_67 rfl ?_
  have z18 := z17.R (o := 0) (k := 5) (v := (some 39)) (by decide)
  refine V_aload_n 71 0 rfl _ rfl rfl dX10_init_70 rfl ?_
  refine V_new 74 0 nkX10_47.1 nkX10_47.2.1 nkX10_47.2.2 (by decide) rfl (by decide) (Nat.le_of_ble_eq_true rfl) (Nat.le_of_ble_eq_true rfl) dX10_init_71 rfl ?_
  refine V_rwI (new_I (z18.1 43 (by decide))) ?_
  refine V_rwR (new_R (z18.2 43 (by decide))) ?_
  refine V_nks (n' := 44) (k' := 43) (sl' := 4620) rfl rfl rfl ?_
  refine V_dup 75 rfl dX10_init_74 rfl ?_
  refine V_callI (K' := 6) (S' := 1568) 78 43 0 [] mkX0_init rfl lkX10_49 rfl (Nat.le_of_ble_eq_true rfl) (Nat.le_of_ble_eq_true rfl) (Nat.le_of_ble_eq_true rfl) (Nat.le_of_ble_eq_true rfl) rfl rfl dX10_init_75 rfl (fun o n1 I1 R1 J1 => o = .inl none ∧ 50 = n1 ∧ IL11 = I1 ∧ RN 43 6 (upR (RN 39 3 (upR (RN 34 4 (upR (RN 26 7 (upR (RN 18 7 (upR (upR (upR (upR (RN 11 4 (upR (RN 4 6 (upR (RN 1 1 (fun _ _ => none)) 0 0 (some 1))) 3 0 (some 4))) 3 1 (some 11)) 3 2 (some 16)) 3 3 (some 17)) 0 1 (some 3))) 0 2 (some 18))) 0 3 (some 26))) 0 4 (some 34))) 0 5 (some 39)) = R1 ∧ J = J1) (fun _ _ _ _ _ h => absurd h.1 (fun e => nomatch e)) (fun v n' I' R' J' h => ?_) (i_X0_43 (z18.mo (by decide)) ⟨rfl, rfl, rfl, rfl, rfl⟩)
  obtain ⟨hv, rfl, rfl, rfl, rfl⟩ := h
  cases hv
  have z19 := (z18.mo (n' := 50) (by decide)).RN (o := 43) (m := 6) (by decide)
  refine V_nks (n' := 50) (k' := 49) (sl' := 6188) rfl rfl rfl ?_
  refine V_putR 81 0 10 6 43 flX10_50 rfl rfl rfl (by decide) (Or.inr ⟨rfl, rfl, rfl, ffX10_50⟩) dX10_init_78 rfl ?_
  have z20 := z19.R (o := 0) (k := 6) (v := (some 43)) (by decide)
  refine V_aload_n 82 0 rfl _ rfl rfl dX10_init_81 rfl ?_
  refine V_new 85 6 nkX10_54.1 nkX10_54.2.1 nkX10_54.2.2 (by decide) rfl (by decide) (Nat.le_of_ble_eq_true rfl) (Nat.le_of_ble_eq_true rfl) dX10_init_82 rfl ?_
  refine V_rwI (new_I (z20.1 50 (by decide))) ?_
  refine V_rwR (new_R (z20.2 50 (by decide))) ?_
  refine V_nks (n' := 51) (k' := 50) (sl' := 6189) rfl rfl rfl ?_
  refine V_dup 86 rfl dX10_init_85 rfl ?_
  refine V_callI (K' := 0) (S' := 0) 89 50 0 [] mkX6_init rfl lkX10_56 rfl (Nat.le_of_ble_eq_true rfl) (Nat.le_of_ble_eq_true rfl) (Nat.le_of_ble_eq_true rfl) (Nat.le_of_ble_eq_true rfl) rfl rfl dX10_init_86 rfl (fun o n1 I1 R1 J1 => o = .inl none ∧ 51 = n1 ∧ IL11 = I1 ∧ upR (RN 43 6 (upR (RN 39 3 (upR (RN 34 4 (upR (RN 26 7 (upR (RN 18 7 (upR (upR (upR (upR (RN 11 4 (upR (RN 4 6 (upR (RN 1 1 (fun _ _ => none)) 0 0 (some 1))) 3 0 (some 4))) 3 1 (some 11)) 3 2 (some 16)) 3 3 (some 17)) 0 1 (some 3))) 0 2 (some 18))) 0 3 (some 26))) 0 4 (some 34))) 0 5 (some 39))) 0 6 (some 43) = R1 ∧ J = J1) (fun _ _ _ _ _ h => absurd h.1 (fun e => nomatch e)) (fun v n' I' R' J' h => ?_) (i_X6_50 (z20.mo (by decide)) ⟨rfl, rfl, rfl, rfl, rfl⟩)
  obtain ⟨hv, rfl, rfl, rfl, rfl⟩ := h
  cases hv
  have z21 := (z20.mo (n' := 51) (by decide))
  refine V_nks (n' := 51) (k' := 50) (sl' := 6189) rfl rfl rfl ?_
  refine V_putR 92 0 10 7 50 flX10_57 rfl rfl rfl (by decide) (Or.inr ⟨rfl, rfl, rfl, ffX10_57⟩) dX10_init_89 rfl ?_
  have z22 := z21.R (o := 0) (k := 7) (v := (some 50)) (by decide)
  refine V_aload_n 93 0 rfl _ rfl rfl dX10_init_92 rfl ?_
  refine V_new 96 2 nkX10_61.1 nkX10_61.2.1 nkX10_61.2.2 (by decide) rfl (by decide) (Nat.le_of_ble_eq_true rfl) (Nat.le_of_ble_eq_true rfl) dX10_init_93 rfl ?_
  refine V_rwI (new_I (z22.1 51 (by decide))) ?_
  refine V_rwR (new_R (z22.2 51 (by decide))) ?_
  refine V_nks (n' := 52) (k' := 51) (sl' := 6198) rfl rfl rfl ?_
  refine V_dup 97 rfl dX10_init_96 rfl ?_
  refine V_callI (K' := 6) (S' := 40) 100 51 0 [] mkX2_init rfl lkX10_63 rfl (Nat.le_of_ble_eq_true rfl) (Nat.le_of_ble_eq_true rfl) (Nat.le_of_ble_eq_true rfl) (Nat.le_of_ble_eq_true rfl) rfl rfl dX10_init_97 rfl (fun o n1 I1 R1 J1 => o = .inl none ∧ 58 = n1 ∧ IL11 = I1 ∧ RN 51 6 (upR (upR (RN 43 6 (upR (RN 39 3 (upR (RN 34 4 (upR (RN 26 7 (upR (RN 18 7 (upR (upR (upR (upR (RN 11 4 (upR (RN 4 6 (upR (RN 1 1 (fun _ _ => none)) 0 0 (some 1))) 3 0 (some 4))) 3 1 (some 11)) 3 2 (some 16)) 3 3 (some 17)) 0 1 (some 3))) 0 2 (some 18))) 0 3 (some 26))) 0 4 (some 34))) 0 5 (some 39))) 0 6 (some 43)) 0 7 (some 50)) = R1 ∧ J = J1) (fun _ _ _ _ _ h => absurd h.1 (fun e => nomatch e)) (fun v n' I' R' J' h => ?_) (i_X2_51 (z22.mo (by decide)) ⟨rfl, rfl, rfl, rfl, rfl⟩)
  obtain ⟨hv, rfl, rfl, rfl, rfl⟩ := h
  cases hv
  have z23 := (z22.mo (n' := 58) (by decide)).RN (o := 51) (m := 6) (by decide)
  refine V_nks (n' := 58) (k' := 57) (sl' := 6238) rfl rfl rfl ?_
  refine V_putR 103 0 10 8 51 flX10_64 rfl rfl rfl (by decide) (Or.inl rfl) dX10_init_100 rfl ?_
  have z24 := z23.R (o := 0) (k := 8) (v := (some 51)) (by decide)
  refine V_aload_n 104 0 rfl _ rfl rfl dX10_init_103 rfl ?_
  refine V_new 107 5 nkX10_68.1 nkX10_68.2.1 nkX10_68.2.2 (by decide) rfl (by decide) (Nat.le_of_ble_eq_true rfl) (Nat.le_of_ble_eq_true rfl) dX10_init_104 rfl ?_
  refine V_rwI (new_I (z24.1 58 (by decide))) ?_
  refine V_rwR (new_R (z24.2 58 (by decide))) ?_
  refine V_nks (n' := 59) (k' := 58) (sl' := 6243) rfl rfl rfl ?_
  refine V_dup 108 rfl dX10_init_107 rfl ?_
  refine V_callI (K' := 4) (S' := 600) 111 58 0 [] mkX5_init rfl lkX10_70 rfl (Nat.le_of_ble_eq_true rfl) (Nat.le_of_ble_eq_true rfl) (Nat.le_of_ble_eq_true rfl) (Nat.le_of_ble_eq_true rfl) rfl rfl dX10_init_108 rfl (fun o n1 I1 R1 J1 => o = .inl none ∧ 63 = n1 ∧ (LawC I1 58 stdF ∧ FrL IL11 I1 58) ∧ RN 58 4 (upR (RN 51 6 (upR (upR (RN 43 6 (upR (RN 39 3 (upR (RN 34 4 (upR (RN 26 7 (upR (RN 18 7 (upR (upR (upR (upR (RN 11 4 (upR (RN 4 6 (upR (RN 1 1 (fun _ _ => none)) 0 0 (some 1))) 3 0 (some 4))) 3 1 (some 11)) 3 2 (some 16)) 3 3 (some 17)) 0 1 (some 3))) 0 2 (some 18))) 0 3 (some 26))) 0 4 (some 34))) 0 5 (some 39))) 0 6 (some 43)) 0 7 (some 50))) 0 8 (some 51)) = R1 ∧ J = J1) (fun _ _ _ _ _ h => absurd h.1 (fun e => nomatch e)) (fun v n' IL58 R' J' h => ?_) (i_X5_58 (z24.mo (by decide)) (fun _ a b => ⟨rfl, rfl, ⟨a, b⟩, rfl, rfl⟩))
  obtain ⟨hv, rfl, ⟨hL58, hF58⟩, rfl, rfl⟩ := h
  cases hv
  have z25 := ((z24.mo (n' := 63) (by decide)).I (fun a ha => hF58 a (by omega))).RN (o := 58) (m := 4) (by decide)
  refine V_nks (n' := 63) (k' := 62) (sl' := 6843) rfl rfl rfl ?_
  refine V_putR 114 0 10 9 58 flX10_71 rfl rfl rfl (by decide) (Or.inl rfl) dX10_init_111 rfl ?_
  have z26 := z25.R (o := 0) (k := 9) (v := (some 58)) (by decide)
  refine V_aload_n 115 0 rfl _ rfl rfl dX10_init_114 rfl ?_
  refine V_new 118 1 nkX10_75.1 nkX10_75.2.1 nkX10_75.2.2 (by decide) rfl (by decide) (Nat.le_of_ble_eq_true rfl) (Nat.le_of_ble_eq_true rfl) dX10_init_115 rfl ?_
  refine V_rwI (new_I (z26.1 63 (by decide))) ?_
  refine V_rwR (new_R (z26.2 63 (by decide))) ?_
  refine V_nks (n' := 64) (k' := 63) (sl' := 6846) rfl rfl rfl ?_
  refine V_dup 119 rfl dX10_init_118 rfl ?_
  refine V_callI (K' := 2) (S' := 16) 122 63 0 [] mkX1_init rfl lkX10_77 rfl (Nat.le_of_ble_eq_true rfl) (Nat.le_of_ble_eq_true rfl) (Nat.le_of_ble_eq_true rfl) (Nat.le_of_ble_eq_true rfl) rfl rfl dX10_init_119 rfl (fun o n1 I1 R1 J1 => o = .inl none ∧ 66 = n1 ∧ IL58 = I1 ∧ RN 63 2 (upR (RN 58 4 (upR (RN 51 6 (upR (upR (RN 43 6 (upR (RN 39 3 (upR (RN 34 4 (upR (RN 26 7 (upR (RN 18 7 (upR (upR (upR (upR (RN 11 4 (upR (RN 4 6 (upR (RN 1 1 (fun _ _ => none)) 0 0 (some 1))) 3 0 (some 4))) 3 1 (some 11)) 3 2 (some 16)) 3 3 (some 17)) 0 1 (some 3))) 0 2 (some 18))) 0 3 (some 26))) 0 4 (some 34))) 0 5 (some 39))) 0 6 (some 43)) 0 7 (some 50))) 0 8 (some 51))) 0 9 (some 58)) = R1 ∧ J = J1) (fun _ _ _ _ _ h => absurd h.1 (fun e => nomatch e)) (fun v n' I' R' J' h => ?_) (i_X1_63 (z26.mo (by decide)) ⟨rfl, rfl, rfl, rfl, rfl⟩)
  obtain ⟨hv, rfl, rfl, rfl, rfl⟩ := h
  cases hv
  have z27 := (z26.mo (n' := 66) (by decide)).RN (o := 63) (m := 2) (by decide)
  refine V_nks (n' := 66) (k' := 65) (sl' := 6862) rfl rfl rfl ?_
  refine V_putR 125 0 10 10 63 flX10_78 rfl rfl rfl (by decide) (Or.inl rfl) dX10_init_122 rfl ?_
  have z28 := z27.R (o := 0) (k := 10) (v := (some 63)) (by decide)
  refine V_aload_n 126 0 rfl _ rfl rfl dX10_init_125 rfl ?_
  refine V_new 129 1 nkX10_75.1 nkX10_75.2.1 nkX10_75.2.2 (by decide) rfl (by decide) (Nat.le_of_ble_eq_true rfl) (Nat.le_of_ble_eq_true rfl) dX10_init_126 rfl ?_
  refine V_rwI (new_I (z28.1 66 (by decide))) ?_
  refine V_rwR (new_R (z28.2 66 (by decide))) ?_
  refine V_nks (n' := 67) (k' := 66) (sl' := 6865) rfl rfl rfl ?_
  refine V_dup 130 rfl dX10_init_129 rfl ?_
  refine V_callI (K' := 2) (S' := 16) 133 66 0 [] mkX1_init rfl lkX10_77 rfl (Nat.le_of_ble_eq_true rfl) (Nat.le_of_ble_eq_true rfl) (Nat.le_of_ble_eq_true rfl) (Nat.le_of_ble_eq_true rfl) rfl rfl dX10_init_130 rfl (fun o n1 I1 R1 J1 => o = .inl none ∧ 69 = n1 ∧ IL58 = I1 ∧ RN 66 2 (upR (RN 63 2 (upR (RN 58 4 (upR (RN 51 6 (upR (upR (RN 43 6 (upR (RN 39 3 (upR (RN 34 4 (upR (RN 26 7 (upR (RN 18 7 (upR (upR (upR (upR (RN 11 4 (upR (RN 4 6 (upR (RN 1 1 (fun _ _ => none)) 0 0 (some 1))) 3 0 (some 4))) 3 1 (some 11)) 3 2 (some 16)) 3 3 (some 17)) 0 1 (some 3))) 0 2 (some 18))) 0 3 (some 26))) 0 4 (some 34))) 0 5 (some 39))) 0 6 (some 43)) 0 7 (some 50))) 0 8 (some 51))) 0 9 (some 58))) 0 10 (some 63)) = R1 ∧ J = J1) (fun _ _ _ _ _ h => absurd h.1 (fun e => nomatch e)) (fun v n' I' R' J' h => ?_) (i_X1_66 (z28.mo (by decide)) ⟨rfl, rfl, rfl, rfl, rfl⟩)
  obtain ⟨hv, rfl, rfl, rfl, rfl⟩ := h
  cases hv
  have z29 := (z28.mo (n' := 69) (by decide)).RN (o := 66) (m := 2) (by decide)
  refine V_nks (n' := 69) (k' := 68) (sl' := 6881) rfl rfl rfl ?_
  refine V_putR 136 0 10 11 66 flX10_82 rfl rfl rfl (by decide) (Or.inl rfl) dX10_init_133 rfl ?_
  have z30 := z29.R (o := 0) (k := 11) (v := (some 66)) (by decide)
  have i1 : ∀ a, a ≠ 1 → (a < 11 ∨ 14 < a) → (a < 58 ∨ 61 < a) → IL58 a = fun _ => 0 := fun a h1 h2 h3 => by rw [hF58 a (by omega), hF11 a (by omega), up2_n _ _ _ h1]
  have i2 : IL58 1 = upd (fun _ => 0) 8 (-1) := by rw [hF58 1 (by omega), hF11 1 (by omega), up2_s]
  have hC : CoastC IL58 4 K0 := by
    refine ⟨?_, ?_, ?_, fun h hh => absurd hh (Nat.not_lt_zero _), fun h hh => absurd hh (Nat.not_lt_zero _), fun h hh => absurd hh (Nat.not_lt_zero _), fun h hh => absurd hh (Nat.not_lt_zero _), fun h hh => absurd hh (Nat.not_lt_zero _), fun h hh => absurd hh (Nat.not_lt_zero _)⟩
    · rw [i1 4 (by decide) (by decide) (by decide)]; rfl
    · rw [i1 4 (by decide) (by decide) (by decide)]; rfl
    · rw [i1 4 (by decide) (by decide) (by decide)]; rfl
  refine V_rwR (show _ = RF from rfl) ?_
  refine V_aload_n 137 0 rfl _ rfl rfl dX10_init_136 rfl ?_
  refine V_getR 140 0 10 2 18 RF_02 flX10_26 rfl rfl rfl (by decide) dX10_init_137 rfl ?_
  refine V_aload_n 141 0 rfl _ rfl rfl dX10_init_140 rfl ?_
  refine V_getR 144 0 10 1 3 RF_01 flX10_19 rfl rfl rfl (by decide) dX10_init_141 rfl ?_
  refine V_getR 147 3 7 0 4 RF_30 flX10_85 rfl rfl rfl (by decide) dX10_init_144 rfl ?_
  refine V_callV (K' := 0) (S' := 0) 150 18 3 1 [rf G 4] mkX3_begin lkX10_88 (by decide) rfl rfl (by decide) rfl (Nat.le_of_ble_eq_true rfl) (Nat.le_of_ble_eq_true rfl) (Nat.le_of_ble_eq_true rfl) (Nat.le_of_ble_eq_true rfl) rfl rfl dX10_init_147 rfl (c_X3_begin (n := 69) (by decide) (fun k hk => RF_18 k hk) (Or.inl rfl) RF_42 hC (by decide) (by decide) (fun I4 hD4 hF4 => ?_))
  refine Kq_v (k' := 68) (sl' := 6881) rfl rfl ?_
  refine V_ret_v rfl (Nat.le_of_ble_eq_true rfl) (fun _ => Nat.le_refl _) (Nat.le_of_ble_eq_true rfl) (hq I4 (hL11.fr (fun a q1 q2 => (hF4 a (by omega)).trans (hF58 a (by omega)))) hD4 (fun a h1 h2 h3 h4 => (hF4 a h4).trans (i1 a h1 h2 h3)) ((hF4 1 (by decide)).trans i2)) dX10_init_150
/-- the reference's references, those before field m -/
def RX (m : Nat) (R : FR) : FR := fun a => if a = 69 then (fun k => if k < m then refM k else none) else R a
theorem RX_0 {R : FR} (h : R 69 = fun _ => none) : R = RX 0 R := by
  funext a; unfold RX; by_cases q : a = 69
  · subst q; rw [if_pos rfl, h]; funext k; rw [if_neg (by omega)]
  · rw [if_neg q]
theorem RX_s {m k j : Nat} {R : FR} (hm : m ≤ k) (h : ∀ i, i < k → m ≤ i → refM i = none) (hj : refM k = some j) : upR (RX m R) 69 k (some j) = RX (k + 1) R := by
  funext a
  by_cases q : a = 69
  · subst q
    rw [upR_s]
    funext i
    unfold RX
    rw [if_pos rfl, if_pos rfl]
    by_cases e : i = k
    · subst e; rw [if_pos rfl, if_pos (by omega), hj]
    · rw [if_neg e]
      by_cases e2 : i < m
      · rw [if_pos e2, if_pos (by omega)]
      · rw [if_neg e2]
        by_cases e3 : i < k + 1
        · rw [if_pos e3, h i (by omega) (by omega)]
        · rw [if_neg e3]
  · rw [upR_n _ _ _ q]; unfold RX; rw [if_neg q, if_neg q]
theorem RX_ok {R : FR} : ∀ k, RX 56 R 69 k = refM k := fun k => by
  unfold RX
  rw [if_pos rfl]
  by_cases e : k < 56
  · rw [if_pos e]
  · rw [if_neg e]
    by_cases e2 : k = 56
    · subst e2; rfl
    · unfold refM
      rw [List.getD_eq_getElem?_getD, List.getElem?_eq_none (by show 57 ≤ k; omega)]
      rfl
theorem RX_n {m a : Nat} {R : FR} (h : a ≠ 69) : RX m R a = R a := if_neg h
theorem i_X11 {G : Gx} {d : Nat} {I : FI} {R : FR} {J : FJ} {Q : Po} (hz : Zr 69 I R) (hq : ∀ I1 I2, FrY (up2 I 69 8 (-1)) I1 → SetM I1 I2 K0 → Q (.inl none) 102 I2 (RX 56 R) J) : Cc G mX11_init (d + 10) 32 8486 [rf G 69] 70 I R J Q := by
  show V _ _ _ _ _ _ _ _ [(0, rf G 69)] [] _ _ _ _ _
  refine V_rwR (RX_0 (hz.2 69 (by decide))) ?_
  refine V_aload_n 1 0 rfl _ rfl rfl dX11_init_0 rfl ?_
  refine V_objInit 4 69 loX11 loI loC (Nat.le_of_ble_eq_true rfl) dX11_init_1 rfl ?_
  refine V_aload_n 5 0 rfl _ rfl rfl dX11_init_4 rfl ?_
  refine V_iconst 6 (2) rfl dX11_init_5 rfl ?_
  refine V_newa 8 0 2 (by decide) rfl ac_int rfl (by decide) (by decide) rfl (by decide) (Nat.le_of_ble_eq_true rfl) (Nat.le_of_ble_eq_true rfl) dX11_init_6 rfl ?_
  refine V_rwI (new_I (hz.1 70 (by decide))) ?_
  refine V_nks (n' := 71) (k' := 1) (sl' := 2) rfl rfl rfl ?_
  refine V_putR 11 69 11 1 70 flX11_7 rfl rfl rfl (by decide) (Or.inr ⟨rfl, rfl, rfl, ffX11_7⟩) dX11_init_8 rfl ?_
  refine V_rwR (show _ = RX 2 R from RX_s (by decide) (by decide) rfl) ?_
  refine V_aload_n 12 0 rfl _ rfl rfl dX11_init_11 rfl ?_
  refine V_iconst 13 (-1) rfl dX11_init_12 rfl ?_
  refine V_putI 16 69 11 8 flX11_17 rfl rfl rfl (by decide) rfl dX11_init_13 rfl ?_
  refine V_aload_n 17 0 rfl _ rfl rfl dX11_init_16 rfl ?_
  refine V_sipush 20 (600) rfl dX11_init_17 rfl ?_
  refine V_newa 22 0 600 (by decide) rfl ac_int rfl (by decide) (by decide) rfl (by decide) (Nat.le_of_ble_eq_true rfl) (Nat.le_of_ble_eq_true rfl) dX11_init_20 rfl ?_
  refine V_rwI (new_I ((up2_n _ _ _ (by decide)).trans (hz.1 71 (by decide)))) ?_
  refine V_nks (n' := 72) (k' := 2) (sl' := 602) rfl rfl rfl ?_
  refine V_putR 25 69 11 9 71 flX11_20 rfl rfl rfl (by decide) (Or.inr ⟨rfl, rfl, rfl, ffX11_20⟩) dX11_init_22 rfl ?_
  refine V_rwR (show _ = RX 10 R from RX_s (by decide) (by decide) rfl) ?_
  refine V_aload_n 26 0 rfl _ rfl rfl dX11_init_25 rfl ?_
  refine V_bipush 28 (16) rfl dX11_init_26 rfl ?_
  refine V_newa 30 0 16 (by decide) rfl ac_int rfl (by decide) (by decide) rfl (by decide) (Nat.le_of_ble_eq_true rfl) (Nat.le_of_ble_eq_true rfl) dX11_init_28 rfl ?_
  refine V_rwI (new_I ((up2_n _ _ _ (by decide)).trans (hz.1 72 (by decide)))) ?_
  refine V_nks (n' := 73) (k' := 3) (sl' := 618) rfl rfl rfl ?_
  refine V_putR 33 69 11 10 72 flX11_23 rfl rfl rfl (by decide) (Or.inr ⟨rfl, rfl, rfl, ffX11_23⟩) dX11_init_30 rfl ?_
  refine V_rwR (show _ = RX 11 R from RX_s (by decide) (by decide) rfl) ?_
  refine V_aload_n 34 0 rfl _ rfl rfl dX11_init_33 rfl ?_
  refine V_bipush 36 (12) rfl dX11_init_34 rfl ?_
  refine V_newa 38 0 12 (by decide) rfl ac_int rfl (by decide) (by decide) rfl (by decide) (Nat.le_of_ble_eq_true rfl) (Nat.le_of_ble_eq_true rfl) dX11_init_36 rfl ?_
  refine V_rwI (new_I ((up2_n _ _ _ (by decide)).trans (hz.1 73 (by decide)))) ?_
  refine V_nks (n' := 74) (k' := 4) (sl' := 630) rfl rfl rfl ?_
  refine V_putR 41 69 11 11 73 flX11_26 rfl rfl rfl (by decide) (Or.inr ⟨rfl, rfl, rfl, ffX11_26⟩) dX11_init_38 rfl ?_
  refine V_rwR (show _ = RX 12 R from RX_s (by decide) (by decide) rfl) ?_
  refine V_aload_n 42 0 rfl _ rfl rfl dX11_init_41 rfl ?_
  refine V_bipush 44 (6) rfl dX11_init_42 rfl ?_
  refine V_newa 46 0 6 (by decide) rfl ac_int rfl (by decide) (by decide) rfl (by decide) (Nat.le_of_ble_eq_true rfl) (Nat.le_of_ble_eq_true rfl) dX11_init_44 rfl ?_
  refine V_rwI (new_I ((up2_n _ _ _ (by decide)).trans (hz.1 74 (by decide)))) ?_
  refine V_nks (n' := 75) (k' := 5) (sl' := 636) rfl rfl rfl ?_
  refine V_putR 49 69 11 12 74 flX11_29 rfl rfl rfl (by decide) (Or.inr ⟨rfl, rfl, rfl, ffX11_29⟩) dX11_init_46 rfl ?_
  refine V_rwR (show _ = RX 13 R from RX_s (by decide) (by decide) rfl) ?_
  refine V_aload_n 50 0 rfl _ rfl rfl dX11_init_49 rfl ?_
  refine V_bipush 52 (6) rfl dX11_init_50 rfl ?_
  refine V_newa 54 0 6 (by decide) rfl ac_int rfl (by decide) (by decide) rfl (by decide) (Nat.le_of_ble_eq_true rfl) (Nat.le_of_ble_eq_true rfl) dX11_init_52 rfl ?_
  refine V_rwI (new_I ((up2_n _ _ _ (by decide)).trans (hz.1 75 (by decide)))) ?_
  refine V_nks (n' := 76) (k' := 6) (sl' := 642) rfl rfl rfl ?_
  refine V_putR 57 69 11 13 75 flX11_32 rfl rfl rfl (by decide) (Or.inr ⟨rfl, rfl, rfl, ffX11_32⟩) dX11_init_54 rfl ?_
  refine V_rwR (show _ = RX 14 R from RX_s (by decide) (by decide) rfl) ?_
  refine V_aload_n 58 0 rfl _ rfl rfl dX11_init_57 rfl ?_
  refine V_bipush 60 (16) rfl dX11_init_58 rfl ?_
  refine V_newa 62 0 16 (by decide) rfl ac_int rfl (by decide) (by decide) rfl (by decide) (Nat.le_of_ble_eq_true rfl) (Nat.le_of_ble_eq_true rfl) dX11_init_60 rfl ?_
  refine V_rwI (new_I ((up2_n _ _ _ (by decide)).trans (hz.1 76 (by decide)))) ?_
  refine V_nks (n' := 77) (k' := 7) (sl' := 658) rfl rfl rfl ?_
  refine V_putR 65 69 11 14 76 flX11_35 rfl rfl rfl (by decide) (Or.inr ⟨rfl, rfl, rfl, ffX11_35⟩) dX11_init_62 rfl ?_
  refine V_rwR (show _ = RX 15 R from RX_s (by decide) (by decide) rfl) ?_
  refine V_aload_n 66 0 rfl _ rfl rfl dX11_init_65 rfl ?_
  refine V_bipush 68 (12) rfl dX11_init_66 rfl ?_
  refine V_newa 70 0 12 (by decide) rfl ac_int rfl (by decide) (by decide) rfl (by decide) (Nat.le_of_ble_eq_true rfl) (Nat.le_of_ble_eq_true rfl) dX11_init_68 rfl ?_
  refine V_rwI (new_I ((up2_n _ _ _ (by decide)).trans (hz.1 77 (by decide)))) ?_
  refine V_nks (n' := 78) (k' := 8) (sl' := 670) rfl rfl rfl ?_
  refine V_putR 73 69 11 15 77 flX11_38 rfl rfl rfl (by decide) (Or.inr ⟨rfl, rfl, rfl, ffX11_38⟩) dX11_init_70 rfl ?_
  refine V_rwR (show _ = RX 16 R from RX_s (by decide) (by decide) rfl) ?_
  refine V_aload_n 74 0 rfl _ rfl rfl dX11_init_73 rfl ?_
  refine V_bipush 76 (6) rfl dX11_init_74 rfl ?_
  refine V_newa 78 0 6 (by decide) rfl ac_int rfl (by decide) (by decide) rfl (by decide) (Nat.le_of_ble_eq_true rfl) (Nat.le_of_ble_eq_true rfl) dX11_init_76 rfl ?_
  refine V_rwI (new_I ((up2_n _ _ _ (by decide)).trans (hz.1 78 (by decide)))) ?_
  refine V_nks (n' := 79) (k' := 9) (sl' := 676) rfl rfl rfl ?_
  refine V_putR 81 69 11 16 78 flX11_41 rfl rfl rfl (by decide) (Or.inr ⟨rfl, rfl, rfl, ffX11_41⟩) dX11_init_78 rfl ?_
  refine V_rwR (show _ = RX 17 R from RX_s (by decide) (by decide) rfl) ?_
  refine V_aload_n 82 0 rfl _ rfl rfl dX11_init_81 rfl ?_
  refine V_bipush 84 (6) rfl dX11_init_82 rfl ?_
  refine V_newa 86 0 6 (by decide) rfl ac_int rfl (by decide) (by decide) rfl (by decide) (Nat.le_of_ble_eq_true rfl) (Nat.le_of_ble_eq_true rfl) dX11_init_84 rfl ?_
  refine V_rwI (new_I ((up2_n _ _ _ (by decide)).trans (hz.1 79 (by decide)))) ?_
  refine V_nks (n' := 80) (k' := 10) (sl' := 682) rfl rfl rfl ?_
  refine V_putR 89 69 11 17 79 flX11_44 rfl rfl rfl (by decide) (Or.inr ⟨rfl, rfl, rfl, ffX11_44⟩) dX11_init_86 rfl ?_
  refine V_rwR (show _ = RX 18 R from RX_s (by decide) (by decide) rfl) ?_
  refine V_aload_n 90 0 rfl _ rfl rfl dX11_init_89 rfl ?_
  refine V_sipush 93 (150) rfl dX11_init_90 rfl ?_
  refine V_newa 95 0 150 (by decide) rfl ac_int rfl (by decide) (by decide) rfl (by decide) (Nat.le_of_ble_eq_true rfl) (Nat.le_of_ble_eq_true rfl) dX11_init_93 rfl ?_
  refine V_rwI (new_I ((up2_n _ _ _ (by decide)).trans (hz.1 80 (by decide)))) ?_
  refine V_nks (n' := 81) (k' := 11) (sl' := 832) rfl rfl rfl ?_
  refine V_putR 98 69 11 24 80 flX11_47 rfl rfl rfl (by decide) (Or.inr ⟨rfl, rfl, rfl, ffX11_47⟩) dX11_init_95 rfl ?_
  refine V_rwR (show _ = RX 25 R from RX_s (by decide) (by decide) rfl) ?_
  refine V_aload_n 99 0 rfl _ rfl rfl dX11_init_98 rfl ?_
  refine V_sipush 102 (150) rfl dX11_init_99 rfl ?_
  refine V_newa 104 0 150 (by decide) rfl ac_int rfl (by decide) (by decide) rfl (by decide) (Nat.le_of_ble_eq_true rfl) (Nat.le_of_ble_eq_true rfl) dX11_init_102 rfl ?_
  refine V_rwI (new_I ((up2_n _ _ _ (by decide)).trans (hz.1 81 (by decide)))) ?_
  refine V_nks (n' := 82) (k' := 12) (sl' := 982) rfl rfl rfl ?_
  refine V_putR 107 69 11 25 81 flX11_50 rfl rfl rfl (by decide) (Or.inr ⟨rfl, rfl, rfl, ffX11_50⟩) dX11_init_104 rfl ?_
  refine V_rwR (show _ = RX 26 R from RX_s (by decide) (by decide) rfl) ?_
  refine V_aload_n 108 0 rfl _ rfl rfl dX11_init_107 rfl ?_
  refine V_sipush 111 (150) rfl dX11_init_108 rfl ?_
  refine V_newa 113 0 150 (by decide) rfl ac_int rfl (by decide) (by decide) rfl (by decide) (Nat.le_of_ble_eq_true rfl) (Nat.le_of_ble_eq_true rfl) dX11_init_111 rfl ?_
  refine V_rwI (new_I ((up2_n _ _ _ (by decide)).trans (hz.1 82 (by decide)))) ?_
  refine V_nks (n' := 83) (k' := 13) (sl' := 1132) rfl rfl rfl ?_
  refine V_putR 116 69 11 26 82 flX11_53 rfl rfl rfl (by decide) (Or.inr ⟨rfl, rfl, rfl, ffX11_53⟩) dX11_init_113 rfl ?_
  refine V_rwR (show _ = RX 27 R from RX_s (by decide) (by decide) rfl) ?_
  refine V_aload_n 117 0 rfl _ rfl rfl dX11_init_116 rfl ?_
  refine V_sipush 120 (150) rfl dX11_init_117 rfl ?_
  refine V_newa 122 0 150 (by decide) rfl ac_int rfl (by decide) (by decide) rfl (by decide) (Nat.le_of_ble_eq_true rfl) (Nat.le_of_ble_eq_true rfl) dX11_init_120 rfl ?_
  refine V_rwI (new_I ((up2_n _ _ _ (by decide)).trans (hz.1 83 (by decide)))) ?_
  refine V_nks (n' := 84) (k' := 14) (sl' := 1282) rfl rfl rfl ?_
  refine V_putR 125 69 11 27 83 flX11_56 rfl rfl rfl (by decide) (Or.inr ⟨rfl, rfl, rfl, ffX11_56⟩) dX11_init_122 rfl ?_
  refine V_rwR (show _ = RX 28 R from RX_s (by decide) (by decide) rfl) ?_
  refine V_aload_n 126 0 rfl _ rfl rfl dX11_init_125 rfl ?_
  refine V_sipush 129 (150) rfl dX11_init_126 rfl ?_
  refine V_newa 131 0 150 (by decide) rfl ac_int rfl (by decide) (by decide) rfl (by decide) (Nat.le_of_ble_eq_true rfl) (Nat.le_of_ble_eq_true rfl) dX11_init_129 rfl ?_
  refine V_rwI (new_I ((up2_n _ _ _ (by decide)).trans (hz.1 84 (by decide)))) ?_
  refine V_nks (n' := 85) (k' := 15) (sl' := 1432) rfl rfl rfl ?_
  refine V_putR 134 69 11 28 84 flX11_59 rfl rfl rfl (by decide) (Or.inr ⟨rfl, rfl, rfl, ffX11_59⟩) dX11_init_131 rfl ?_
  refine V_rwR (show _ = RX 29 R from RX_s (by decide) (by decide) rfl) ?_
  refine V_aload_n 135 0 rfl _ rfl rfl dX11_init_134 rfl ?_
  refine V_bipush 137 (8) rfl dX11_init_135 rfl ?_
  refine V_newa 139 0 8 (by decide) rfl ac_int rfl (by decide) (by decide) rfl (by decide) (Nat.le_of_ble_eq_true rfl) (Nat.le_of_ble_eq_true rfl) dX11_init_137 rfl ?_
  refine V_rwI (new_I ((up2_n _ _ _ (by decide)).trans (hz.1 85 (by decide)))) ?_
  refine V_nks (n' := 86) (k' := 16) (sl' := 1440) rfl rfl rfl ?_
  refine V_putR 142 69 11 31 85 flX11_62 rfl rfl rfl (by decide) (Or.inr ⟨rfl, rfl, rfl, ffX11_62⟩) dX11_init_139 rfl ?_
  refine V_rwR (show _ = RX 32 R from RX_s (by decide) (by decide) rfl) ?_
  refine V_aload_n 143 0 rfl _ rfl rfl dX11_init_142 rfl ?_
  refine V_sipush 146 (150) rfl dX11_init_143 rfl ?_
  refine V_newa 148 0 150 (by decide) rfl ac_int rfl (by decide) (by decide) rfl (by decide) (Nat.le_of_ble_eq_true rfl) (Nat.le_of_ble_eq_true rfl) dX11_init_146 rfl ?_
  refine V_rwI (new_I ((up2_n _ _ _ (by decide)).trans (hz.1 86 (by decide)))) ?_
  refine V_nks (n' := 87) (k' := 17) (sl' := 1590) rfl rfl rfl ?_
  refine V_putR 151 69 11 32 86 flX11_65 rfl rfl rfl (by decide) (Or.inr ⟨rfl, rfl, rfl, ffX11_65⟩) dX11_init_148 rfl ?_
  refine V_rwR (show _ = RX 33 R from RX_s (by decide) (by decide) rfl) ?_
  refine V_aload_n 152 0 rfl _ rfl rfl dX11_init_151 rfl ?_
  refine V_sipush 155 (150) rfl dX11_init_152 rfl ?_
  refine V_newa 157 0 150 (by decide) rfl ac_int rfl (by decide) (by decide) rfl (by decide) (Nat.le_of_ble_eq_true rfl) (Nat.le_of_ble_eq_true rfl) dX11_init_155 rfl ?_
  refine V_rwI (new_I ((up2_n _ _ _ (by decide)).trans (hz.1 87 (by decide)))) ?_
  refine V_nks (n' := 88) (k' := 18) (sl' := 1740) rfl rfl rfl ?_
  refine V_putR 160 69 11 33 87 flX11_68 rfl rfl rfl (by decide) (Or.inr ⟨rfl, rfl, rfl, ffX11_68⟩) dX11_init_157 rfl ?_
  refine V_rwR (show _ = RX 34 R from RX_s (by decide) (by decide) rfl) ?_
  refine V_aload_n 161 0 rfl _ rfl rfl dX11_init_160 rfl ?_
  refine V_bipush 163 (51) rfl dX11_init_161 rfl ?_
  refine V_newa 165 0 51 (by decide) rfl ac_int rfl (by decide) (by decide) rfl (by decide) (Nat.le_of_ble_eq_true rfl) (Nat.le_of_ble_eq_true rfl) dX11_init_163 rfl ?_
  refine V_rwI (new_I ((up2_n _ _ _ (by decide)).trans (hz.1 88 (by decide)))) ?_
  refine V_nks (n' := 89) (k' := 19) (sl' := 1791) rfl rfl rfl ?_
  refine V_putR 168 69 11 40 88 flX11_71 rfl rfl rfl (by decide) (Or.inr ⟨rfl, rfl, rfl, ffX11_71⟩) dX11_init_165 rfl ?_
  refine V_rwR (show _ = RX 41 R from RX_s (by decide) (by decide) rfl) ?_
  refine V_aload_n 169 0 rfl _ rfl rfl dX11_init_168 rfl ?_
  refine V_bipush 171 (51) rfl dX11_init_169 rfl ?_
  refine V_newa 173 0 51 (by decide) rfl ac_int rfl (by decide) (by decide) rfl (by decide) (Nat.le_of_ble_eq_true rfl) (Nat.le_of_ble_eq_true rfl) dX11_init_171 rfl ?_
  refine V_rwI (new_I ((up2_n _ _ _ (by decide)).trans (hz.1 89 (by decide)))) ?_
  refine V_nks (n' := 90) (k' := 20) (sl' := 1842) rfl rfl rfl ?_
  refine V_putR 176 69 11 41 89 flX11_74 rfl rfl rfl (by decide) (Or.inr ⟨rfl, rfl, rfl, ffX11_74⟩) dX11_init_173 rfl ?_
  refine V_rwR (show _ = RX 42 R from RX_s (by decide) (by decide) rfl) ?_
  refine V_aload_n 177 0 rfl _ rfl rfl dX11_init_176 rfl ?_
  refine V_sipush 180 (816) rfl dX11_init_177 rfl ?_
  refine V_newa 182 0 816 (by decide) rfl ac_int rfl (by decide) (by decide) rfl (by decide) (Nat.le_of_ble_eq_true rfl) (Nat.le_of_ble_eq_true rfl) dX11_init_180 rfl ?_
  refine V_rwI (new_I ((up2_n _ _ _ (by decide)).trans (hz.1 90 (by decide)))) ?_
  refine V_nks (n' := 91) (k' := 21) (sl' := 2658) rfl rfl rfl ?_
  refine V_putR 185 69 11 42 90 flX11_77 rfl rfl rfl (by decide) (Or.inr ⟨rfl, rfl, rfl, ffX11_77⟩) dX11_init_182 rfl ?_
  refine V_rwR (show _ = RX 43 R from RX_s (by decide) (by decide) rfl) ?_
  refine V_aload_n 186 0 rfl _ rfl rfl dX11_init_185 rfl ?_
  refine V_bipush 188 (6) rfl dX11_init_186 rfl ?_
  refine V_newa 190 0 6 (by decide) rfl ac_int rfl (by decide) (by decide) rfl (by decide) (Nat.le_of_ble_eq_true rfl) (Nat.le_of_ble_eq_true rfl) dX11_init_188 rfl ?_
  refine V_rwI (new_I ((up2_n _ _ _ (by decide)).trans (hz.1 91 (by decide)))) ?_
  refine V_nks (n' := 92) (k' := 22) (sl' := 2664) rfl rfl rfl ?_
  refine V_putR 193 69 11 43 91 flX11_80 rfl rfl rfl (by decide) (Or.inr ⟨rfl, rfl, rfl, ffX11_80⟩) dX11_init_190 rfl ?_
  refine V_rwR (show _ = RX 44 R from RX_s (by decide) (by decide) rfl) ?_
  refine V_aload_n 194 0 rfl _ rfl rfl dX11_init_193 rfl ?_
  refine V_bipush 196 (24) rfl dX11_init_194 rfl ?_
  refine V_newa 198 0 24 (by decide) rfl ac_int rfl (by decide) (by decide) rfl (by decide) (Nat.le_of_ble_eq_true rfl) (Nat.le_of_ble_eq_true rfl) dX11_init_196 rfl ?_
  refine V_rwI (new_I ((up2_n _ _ _ (by decide)).trans (hz.1 92 (by decide)))) ?_
  refine V_nks (n' := 93) (k' := 23) (sl' := 2688) rfl rfl rfl ?_
  refine V_putR 201 69 11 44 92 flX11_83 rfl rfl rfl (by decide) (Or.inr ⟨rfl, rfl, rfl, ffX11_83⟩) dX11_init_198 rfl ?_
  refine V_rwR (show _ = RX 45 R from RX_s (by decide) (by decide) rfl) ?_
  refine V_aload_n 202 0 rfl _ rfl rfl dX11_init_201 rfl ?_
  refine V_bipush 204 (24) rfl dX11_init_202 rfl ?_
  refine V_newa 206 0 24 (by decide) rfl ac_int rfl (by decide) (by decide) rfl (by decide) (Nat.le_of_ble_eq_true rfl) (Nat.le_of_ble_eq_true rfl) dX11_init_204 rfl ?_
  refine V_rwI (new_I ((up2_n _ _ _ (by decide)).trans (hz.1 93 (by decide)))) ?_
  refine V_nks (n' := 94) (k' := 24) (sl' := 2712) rfl rfl rfl ?_
  refine V_putR 209 69 11 45 93 flX11_86 rfl rfl rfl (by decide) (Or.inr ⟨rfl, rfl, rfl, ffX11_86⟩) dX11_init_206 rfl ?_
  refine V_rwR (show _ = RX 46 R from RX_s (by decide) (by decide) rfl) ?_
  refine V_aload_n 210 0 rfl _ rfl rfl dX11_init_209 rfl ?_
  refine V_bipush 212 (24) rfl dX11_init_210 rfl ?_
  refine V_newa 214 0 24 (by decide) rfl ac_int rfl (by decide) (by decide) rfl (by decide) (Nat.le_of_ble_eq_true rfl) (Nat.le_of_ble_eq_true rfl) dX11_init_212 rfl ?_
  refine V_rwI (new_I ((up2_n _ _ _ (by decide)).trans (hz.1 94 (by decide)))) ?_
  refine V_nks (n' := 95) (k' := 25) (sl' := 2736) rfl rfl rfl ?_
  refine V_putR 217 69 11 47 94 flX11_89 rfl rfl rfl (by decide) (Or.inr ⟨rfl, rfl, rfl, ffX11_89⟩) dX11_init_214 rfl ?_
  refine V_rwR (show _ = RX 48 R from RX_s (by decide) (by decide) rfl) ?_
  refine V_aload_n 218 0 rfl _ rfl rfl dX11_init_217 rfl ?_
  refine V_sipush 221 (1792) rfl dX11_init_218 rfl ?_
  refine V_newa 223 0 1792 (by decide) rfl ac_int rfl (by decide) (by decide) rfl (by decide) (Nat.le_of_ble_eq_true rfl) (Nat.le_of_ble_eq_true rfl) dX11_init_221 rfl ?_
  refine V_rwI (new_I ((up2_n _ _ _ (by decide)).trans (hz.1 95 (by decide)))) ?_
  refine V_nks (n' := 96) (k' := 26) (sl' := 4528) rfl rfl rfl ?_
  refine V_putR 226 69 11 48 95 flX11_92 rfl rfl rfl (by decide) (Or.inr ⟨rfl, rfl, rfl, ffX11_92⟩) dX11_init_223 rfl ?_
  refine V_rwR (show _ = RX 49 R from RX_s (by decide) (by decide) rfl) ?_
  refine V_aload_n 227 0 rfl _ rfl rfl dX11_init_226 rfl ?_
  refine V_bipush 229 (6) rfl dX11_init_227 rfl ?_
  refine V_newa 231 0 6 (by decide) rfl ac_int rfl (by decide) (by decide) rfl (by decide) (Nat.le_of_ble_eq_true rfl) (Nat.le_of_ble_eq_true rfl) dX11_init_229 rfl ?_
  refine V_rwI (new_I ((up2_n _ _ _ (by decide)).trans (hz.1 96 (by decide)))) ?_
  refine V_nks (n' := 97) (k' := 27) (sl' := 4534) rfl rfl rfl ?_
  refine V_putR 234 69 11 49 96 flX11_95 rfl rfl rfl (by decide) (Or.inr ⟨rfl, rfl, rfl, ffX11_95⟩) dX11_init_231 rfl ?_
  refine V_rwR (show _ = RX 50 R from RX_s (by decide) (by decide) rfl) ?_
  refine V_aload_n 235 0 rfl _ rfl rfl dX11_init_234 rfl ?_
  refine V_bipush 237 (48) rfl dX11_init_235 rfl ?_
  refine V_newa 239 0 48 (by decide) rfl ac_int rfl (by decide) (by decide) rfl (by decide) (Nat.le_of_ble_eq_true rfl) (Nat.le_of_ble_eq_true rfl) dX11_init_237 rfl ?_
  refine V_rwI (new_I ((up2_n _ _ _ (by decide)).trans (hz.1 97 (by decide)))) ?_
  refine V_nks (n' := 98) (k' := 28) (sl' := 4582) rfl rfl rfl ?_
  refine V_putR 242 69 11 50 97 flX11_98 rfl rfl rfl (by decide) (Or.inr ⟨rfl, rfl, rfl, ffX11_98⟩) dX11_init_239 rfl ?_
  refine V_rwR (show _ = RX 51 R from RX_s (by decide) (by decide) rfl) ?_
  refine V_aload_n 243 0 rfl _ rfl rfl dX11_init_242 rfl ?_
  refine V_sipush 246 (1152) rfl dX11_init_243 rfl ?_
  refine V_newa 248 0 1152 (by decide) rfl ac_int rfl (by decide) (by decide) rfl (by decide) (Nat.le_of_ble_eq_true rfl) (Nat.le_of_ble_eq_true rfl) dX11_init_246 rfl ?_
  refine V_rwI (new_I ((up2_n _ _ _ (by decide)).trans (hz.1 98 (by decide)))) ?_
  refine V_nks (n' := 99) (k' := 29) (sl' := 5734) rfl rfl rfl ?_
  refine V_putR 251 69 11 51 98 flX11_101 rfl rfl rfl (by decide) (Or.inr ⟨rfl, rfl, rfl, ffX11_101⟩) dX11_init_248 rfl ?_
  refine V_rwR (show _ = RX 52 R from RX_s (by decide) (by decide) rfl) ?_
  refine V_aload_n 252 0 rfl _ rfl rfl dX11_init_251 rfl ?_
  refine V_bipush 254 (48) rfl dX11_init_252 rfl ?_
  refine V_newa 256 2 48 (by decide) rfl ac_boolean rfl (by decide) (by decide) rfl (by decide) (Nat.le_of_ble_eq_true rfl) (Nat.le_of_ble_eq_true rfl) dX11_init_254 rfl ?_
  refine V_rwI (new_I ((up2_n _ _ _ (by decide)).trans (hz.1 99 (by decide)))) ?_
  refine V_nks (n' := 100) (k' := 30) (sl' := 5782) rfl rfl rfl ?_
  refine V_putR 259 69 11 52 99 flX11_104 rfl rfl rfl (by decide) (Or.inr ⟨rfl, rfl, rfl, ffX11_104⟩) dX11_init_256 rfl ?_
  refine V_rwR (show _ = RX 53 R from RX_s (by decide) (by decide) rfl) ?_
  refine V_aload_n 260 0 rfl _ rfl rfl dX11_init_259 rfl ?_
  refine V_bipush 262 (100) rfl dX11_init_260 rfl ?_
  refine V_newa 264 0 100 (by decide) rfl ac_int rfl (by decide) (by decide) rfl (by decide) (Nat.le_of_ble_eq_true rfl) (Nat.le_of_ble_eq_true rfl) dX11_init_262 rfl ?_
  refine V_rwI (new_I ((up2_n _ _ _ (by decide)).trans (hz.1 100 (by decide)))) ?_
  refine V_nks (n' := 101) (k' := 31) (sl' := 5882) rfl rfl rfl ?_
  refine V_putR 267 69 11 53 100 flX11_108 rfl rfl rfl (by decide) (Or.inr ⟨rfl, rfl, rfl, ffX11_108⟩) dX11_init_264 rfl ?_
  refine V_rwR (show _ = RX 54 R from RX_s (by decide) (by decide) rfl) ?_
  refine V_aload_n 268 0 rfl _ rfl rfl dX11_init_267 rfl ?_
  refine V_sipush 271 (2604) rfl dX11_init_268 rfl ?_
  refine V_newa 273 0 2604 (by decide) rfl ac_int rfl (by decide) (by decide) rfl (by decide) (Nat.le_of_ble_eq_true rfl) (Nat.le_of_ble_eq_true rfl) dX11_init_271 rfl ?_
  refine V_rwI (new_I ((up2_n _ _ _ (by decide)).trans (hz.1 101 (by decide)))) ?_
  refine V_nks (n' := 102) (k' := 32) (sl' := 8486) rfl rfl rfl ?_
  refine V_putR 276 69 11 55 101 flX11_111 rfl rfl rfl (by decide) (Or.inr ⟨rfl, rfl, rfl, ffX11_111⟩) dX11_init_273 rfl ?_
  refine V_rwR (show _ = RX 56 R from RX_s (by decide) (by decide) rfl) ?_
  refine V_aload_n 277 0 rfl _ rfl rfl dX11_init_276 rfl ?_
  refine V_callV (K' := 0) (S' := 0) 280 69 11 0 [] mkX11_clears lkX11_114 (by decide) rfl rfl (by decide) rfl (Nat.le_of_ble_eq_true rfl) (Nat.le_of_ble_eq_true rfl) (Nat.le_of_ble_eq_true rfl) (Nat.le_of_ble_eq_true rfl) rfl rfl dX11_init_277 rfl (c_X11_clears (n := 102) (by decide) RX_ok (fun I1 hN1 hY1 => ?_))
  refine Kq_v (k' := 32) (sl' := 8486) rfl rfl ?_
  refine V_aload_n 281 0 rfl _ rfl rfl dX11_init_280 rfl ?_
  refine V_callV (K' := 0) (S' := 0) 284 69 11 0 [] mkX11_sets lkX11_117 (by decide) rfl rfl (by decide) rfl (Nat.le_of_ble_eq_true rfl) (Nat.le_of_ble_eq_true rfl) (Nat.le_of_ble_eq_true rfl) (Nat.le_of_ble_eq_true rfl) rfl rfl dX11_init_281 rfl (c_X11_sets (n := 102) (by decide) RX_ok hN1 (by decide) (by decide) (by decide) (fun I2 hM2 => ?_))
  refine Kq_v (k' := 32) (sl' := 8486) rfl rfl ?_
  refine V_ret_v rfl (Nat.le_of_ble_eq_true rfl) (fun _ => Nat.le_refl _) (Nat.le_of_ble_eq_true rfl) (hq I1 I2 hY1 hM2) dX11_init_284
