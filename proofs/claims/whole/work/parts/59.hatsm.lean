/-! ===== hatted, given: the reference ===== -/
theorem ix8 : ∀ m, m < 7 → ∀ s, s < 256 → (nI m <<< (8 &&& 31)) ||| nI s = nI (256 * m + s) := by decide +kernel
theorem ix8h {m s h : Nat} (hm : m < 7) (hs : s < 256) (hh : h < 8) (cb : (nI s >>> (nI h &&& 31)) &&& 1 = 0) : nI (256 * m + s) ||| ((1 : Int32) <<< (nI h &&& 31)) = nI (256 * m + (s + 2 ^ h)) := by
  have o := or8 s hs h hh cb
  rw [← ix8 m hm s hs, Int32.or_assoc, o.1, ix8 m hm _ o.2.1]
def Fr6 (I I' : FI) : Prop := ∀ a, a ≠ 84 → a ≠ 85 → (a < 94 ∨ 97 < a) → I' a = I a
theorem Fr6.rf {I : FI} : Fr6 I I := fun _ _ _ _ => rfl
theorem Fr6.tr {I I1 I2 : FI} (h : Fr6 I I1) (h2 : Fr6 I1 I2) : Fr6 I I2 := fun a q1 q2 q3 => (h2 a q1 q2 q3).trans (h a q1 q2 q3)
theorem Fr6.f4 {I I' : FI} (h : Fr4 I I') : Fr6 I I' := fun a q1 q2 q3 => h a q1 q2 (by omega)
theorem Fr6.o {I I' : FI} {b : Nat} (hb : 94 ≤ b ∧ b ≤ 97) (h : ∀ a, a ≠ b → I' a = I a) : Fr6 I I' := fun a q1 q2 q3 => h a (by omega)
theorem Fr6.K {I I' : FI} {K : CO} (h : Fr6 I I') (hK : CoastM I K) : CoastM I' K := hK.fr (by rw [h 69 (by decide) (by decide) (by decide)]) (by rw [h 69 (by decide) (by decide) (by decide)]) (by rw [h 69 (by decide) (by decide) (by decide)]) (fun a q1 q2 => h a (by omega) (by omega) (by omega))
theorem Fr6.L {I I' : FI} {f : DV → Int32} (h : Fr6 I I') (hL : LawM I f) : LawM I' f := hL.fr (by rw [h 69 (by decide) (by decide) (by decide)]) (h 82 (by decide) (by decide) (by decide)) (h 83 (by decide) (by decide) (by decide))
theorem Fr6.N {I I' : FI} {D : DV} (h : Fr6 I I') (hN : ∀ k, k < 51 → I 88 k = D k) : ∀ k, k < 51 → I' 88 k = D k := fun k hk => by rw [h 88 (by decide) (by decide) (by decide)]; exact hN k hk
theorem FrM.go6 {I I1 I2 : FI} (h : FrM I I1) (h2 : Fr6 I1 I2) : FrM I I2 := h.go (fun a q1 q2 _ _ q5 => h2 a q1 q2 (by omega))
theorem alT1 {K : CO} {f : DV → Int32} {D : DV} {m h g : Nat} : alT K f D m h g 1 = alS K f D m h g 0 := Int32.zero_add _
theorem c_X11_costOf {G : Gx} {d : Nat} {I : FI} {R : FR} {J : FJ} {Q : Po} (hRM : ∀ k, R 69 k = refM k) {K : CO} {f : DV → Int32} {D : DV} (hK : CoastM I K) (hW : WK K) (hN : ∀ k, k < 51 → I 88 k = D k) (hL : LawM I f) (hfR : fR f) {m h g : Nat} (hm : m < cM K) (hh : h < cH K) (hg : g < cG K) (hq : ∀ v I', Fr4 I I' → (D (30 + m) = 1 → v = nI (pA K f D g m h)) → Q (.inl (some (.int v))) 103 I' R J) : Cc G mX11_costOf (d + 7) 0 0 [rf G 69, .int (nI m), .int (nI h), .int (nI g)] 103 I R J Q := by
  have h6 := hW.2.2.1
  show V _ _ _ _ _ _ _ _ [(0, rf G 69), (1, .int (nI m)), (2, .int (nI h)), (3, .int (nI g))] [] _ _ _ _ _
  refine V_aload_n 1 0 rfl _ rfl rfl dX11_costOf_0 rfl ?_
  refine V_getR 4 69 11 40 88 (hRM 40) flX11_71 rfl rfl rfl (by decide) dX11_costOf_1 rfl ?_
  refine V_bipush 6 (30) rfl dX11_costOf_4 rfl ?_
  refine V_iload_n 7 1 rfl rfl dX11_costOf_6 rfl ?_
  refine V_iadd 8 dX11_costOf_7 rfl ?_
  refine V_rw (nI_add 30 m) ?_
  refine V_ialdN 9 88 51 (30 + m) (D (30 + m)) (hN (30 + m) (by omega)) (by omega) (by decide) rfl (by decide) dX11_costOf_8 rfl ?_
  refine V_if_ne 16 12 rfl dX11_costOf_9 rfl (fun c9 => ?_) (fun c9 => ?_)
  · refine V_aload_n 17 0 rfl _ rfl rfl dX11_costOf_16 rfl ?_
    refine V_iload_n 18 1 rfl rfl dX11_costOf_17 rfl ?_
    refine V_iload_n 19 2 rfl rfl dX11_costOf_18 rfl ?_
    refine V_iload_n 20 3 rfl rfl dX11_costOf_19 rfl ?_
    refine V_iconst 21 (1) rfl dX11_costOf_20 rfl ?_
    refine V_callV (K' := 0) (S' := 0) 24 69 11 4 [.int (nI m), .int (nI h), .int (nI g), .int 1] mkX11_hurtBy lkX11_411 (by decide) rfl rfl (by decide) rfl (Nat.le_of_ble_eq_true rfl) (Nat.le_of_ble_eq_true rfl) (Nat.le_of_ble_eq_true rfl) (Nat.le_of_ble_eq_true rfl) rfl rfl dX11_costOf_21 rfl (c_X11_hurtBy (n := 1) hRM hK hW hN hL hm hh hg (by decide) (fun I1 hF1 => ?_))
    rw [alT1, (pA_ok hfR D g m h).1]
    refine Kq_i (k' := 0) (sl' := 0) rfl rfl ?_
    refine V_ret_i rfl rfl (Nat.le_of_ble_eq_true rfl) (fun h => absurd h (by decide)) (Nat.le_of_ble_eq_true rfl) (hq _ I1 hF1 (fun _ => rfl)) dX11_costOf_24
  · refine V_iconst 13 (0) rfl dX11_costOf_12 rfl ?_
    refine V_goto 24 rfl dX11_costOf_13 ?_
    refine V_ret_i rfl rfl (Nat.le_of_ble_eq_true rfl) (fun h => absurd h (by decide)) (Nat.le_of_ble_eq_true rfl) (hq _ I Fr4.rf (fun e => absurd e (by rw [c9]; decide))) dX11_costOf_24
def CsM (I : FI) (K : CO) (f : DV → Int32) (D : DV) (g : Nat) : Prop := ∀ m, m < cM K → D (30 + m) = 1 → ∀ h, h < cH K → I 97 (8 * m + h) = nI (pA K f D g m h)
set_option maxHeartbeats 16000000 in
theorem c_X11_layHatted {G : Gx} {d : Nat} {I : FI} {R : FR} {J : FJ} {Q : Po} (hRM : ∀ k, R 69 k = refM k) {K : CO} {f : DV → Int32} {D : DV} (hK : CoastM I K) (hW : WK K) (hN : ∀ k, k < 51 → I 88 k = D k) (hfR : fR f) {g : Nat} (hFl : Flg D) (hCs : CsM I K f D g) (hq : ∀ I', (∀ a, a ≠ 95 → I' a = I a) → (∀ m, m ≤ cM K → ∀ s, s < 2 ^ cH K → I' 95 (256 * m + s) = oI (LO D (pA K f D g) (cM K) (cH K) (cM K - m) s)) → Q (.inl none) 103 I' R J) : Cc G mX11_layHatted d 0 0 [rf G 69] 103 I R J Q := by
  have h8 := hW.1
  have h6 := hW.2.2.1
  have p8 := pow8 h8
  have L2 : ∀ r, r ≤ cM K → ∀ x I1, x = nI r - 1 → (∀ a, a ≠ 95 → I1 a = I a) → (∀ k, r ≤ k → k ≤ cM K → ∀ s, s < 2 ^ cH K → I1 95 (256 * k + s) = oI (LO D (pA K f D g) (cM K) (cH K) (cM K - k) s)) → V G mX11_layHatted d 0 0 0 0 40 [(1, .int x), (0, rf G 69)] [] 103 I1 R J Q := by
    intro r
    induction r with
    | zero =>
      intro _ x I1 hx hF1 hR1
      have hx0 : x < 0 := by rw [hx]; decide
      refine V_iload_n 41 0 rfl rfl dX11_layHatted_40 rfl ?_
      refine V_if_lt 221 44 rfl dX11_layHatted_41 rfl (fun c41 => ?_) (fun c41 => absurd hx0 c41)
      refine V_ret_v rfl (Nat.le_of_ble_eq_true rfl) (fun h => absurd h (by decide)) (Nat.le_of_ble_eq_true rfl) (hq I1 hF1 (fun m hm => hR1 m (Nat.zero_le _) hm)) dX11_layHatted_221
    | succ m ih =>
      intro hr x I1 hx hF1 hR1
      have hx1 : x = nI m := by rw [hx]; exact nI_sub (a := m + 1) (b := 1) (by omega)
      subst hx1
      have ed : nI m + Int32.ofInt (-1) = nI m - 1 := by rw [Int32.sub_eq_add_neg]; rfl
      have L3 : ∀ s, s ≤ 2 ^ cH K → ∀ I2, (∀ a, a ≠ 95 → I2 a = I a) → (∀ k, m + 1 ≤ k → k ≤ cM K → ∀ s, s < 2 ^ cH K → I2 95 (256 * k + s) = oI (LO D (pA K f D g) (cM K) (cH K) (cM K - k) s)) → (∀ s', s' < s → I2 95 (256 * m + s') = oI (LO D (pA K f D g) (cM K) (cH K) (cM K - m) s')) → V G mX11_layHatted d 0 0 0 0 46 [(2, .int (nI s)), (1, .int (nI m)), (0, rf G 69)] [] 103 I2 R J Q := by
        refine loopd (2 ^ cH K) (fun I2 hF2 hR2 hT2 => ?_) (fun s hs ih3 I2 hF2 hR2 hT2 => ?_)
        · refine V_iload_n 47 0 rfl rfl dX11_layHatted_46 rfl ?_
          refine V_iconst 48 (1) rfl dX11_layHatted_47 rfl ?_
          refine V_aload_n 49 2 rfl _ rfl rfl dX11_layHatted_48 rfl ?_
          refine V_getI 52 69 11 21 (nI (cH K)) (show I2 69 21 = _ from by rw [hF2 69 (by decide)]; exact hK.1) flX11_175 rfl rfl rfl (by decide) dX11_layHatted_49 rfl ?_
          refine V_ishl 53 dX11_layHatted_52 rfl ?_
          refine V_rw (show _ = nI (2 ^ cH K) from sh8 (cH K) (by omega)) ?_
          refine V_icmp_ge 215 56 rfl dX11_layHatted_53 rfl (fun c53 => ?_) (fun c53 => absurd (Int32.le_refl _) c53)
          refine V_iinc 218 1 rfl (nI m - 1) [(1, .int (nI m - 1)), (2, .int (nI (2 ^ cH K))), (0, rf G 69)] ed (by decide) rfl dX11_layHatted_215 rfl ?_
          refine V_goto 40 rfl dX11_layHatted_218 ?_
          refine V_lv [0, 2] rfl (ih (by omega) _ I2 rfl hF2 (fun k q1 q2 s q3 => ?_))
          by_cases e : k = m
          · subst e; exact hT2 s q3
          · exact hR2 k (by omega) q2 s q3
        · have hN2 : ∀ k, k < 51 → I2 88 k = D k := fun k hk => by rw [hF2 88 (by decide)]; exact hN k hk
          have H197 : ∀ y b, b = oI (LO D (pA K f D g) (cM K) (cH K) (cM K - m) s) → V G mX11_layHatted d 0 0 0 0 197 [(4, .int y), (3, .int b), (2, .int (nI s)), (1, .int (nI m)), (0, rf G 69)] [] 103 I2 R J Q := by
            intro y b eb
            subst eb
            refine V_aload_n 198 4 rfl _ rfl rfl dX11_layHatted_197 rfl ?_
            refine V_getR 201 69 11 48 95 (hRM 48) flX11_92 rfl rfl rfl (by decide) dX11_layHatted_198 rfl ?_
            refine V_iload_n 202 3 rfl rfl dX11_layHatted_201 rfl ?_
            refine V_bipush 204 (8) rfl dX11_layHatted_202 rfl ?_
            refine V_ishl 205 dX11_layHatted_204 rfl ?_
            refine V_iload_n 206 2 rfl rfl dX11_layHatted_205 rfl ?_
            refine V_ior 207 dX11_layHatted_206 rfl ?_
            refine V_rw (show _ = nI (256 * m + s) from ix8 m (by omega) s (by omega)) ?_
            refine V_iload_n 208 1 rfl rfl dX11_layHatted_207 rfl ?_
            refine V_iastN 209 95 1792 (256 * m + s) (by omega) (by decide) rfl (by decide) dX11_layHatted_208 rfl ?_
            refine V_iinc 212 2 rfl (nI (s + 1)) [(2, .int (nI (s + 1))), (4, .int y), (3, .int (oI (LO D (pA K f D g) (cM K) (cH K) (cM K - m) s))), (1, .int (nI m)), (0, rf G 69)] (nI_1 _) (by decide) rfl dX11_layHatted_209 rfl ?_
            refine V_goto 46 rfl dX11_layHatted_212 ?_
            refine V_lv [0, 3, 4] rfl (ih3 _ (fun a q => by rw [up2_n _ _ _ q]; exact hF2 a q) (fun k q1 q2 s2 q3 => by rw [up2_s, upd_n (by omega)]; exact hR2 k q1 q2 s2 q3) (fun s2 q => ?_))
            rw [up2_s]
            by_cases e : s2 = s
            · subst e; exact upd_s
            · rw [upd_n (by omega)]; exact hT2 s2 (by omega)
          have eLO : LO D (pA K f D g) (cM K) (cH K) (cM K - m) s = if D (30 + m) = 1 then (fcF (qF (LO D (pA K f D g) (cM K) (cH K) (cM K - (m + 1))) (pA K f D g m) s) (cH K)).map (·.2) else LO D (pA K f D g) (cM K) (cH K) (cM K - (m + 1)) s := LO_m (by omega)
          by_cases cl : D (30 + m) = 1
          · rw [if_pos cl] at eLO
            have L4 : ∀ h, h ≤ cH K → V G mX11_layHatted d 0 0 0 0 89 [(4, .int (nI h)), (3, .int (oI ((fcF (qF (LO D (pA K f D g) (cM K) (cH K) (cM K - (m + 1))) (pA K f D g m) s) h).map (·.2)))), (2, .int (nI s)), (1, .int (nI m)), (0, rf G 69)] [] 103 I2 R J Q := by
              refine loopd (cH K) ?_ (fun h hh ih4 => ?_)
              · refine V_iload 91 0 rfl dX11_layHatted_89 rfl ?_
                refine V_aload_n 92 4 rfl _ rfl rfl dX11_layHatted_91 rfl ?_
                refine V_getI 95 69 11 21 (nI (cH K)) (show I2 69 21 = _ from by rw [hF2 69 (by decide)]; exact hK.1) flX11_175 rfl rfl rfl (by decide) dX11_layHatted_92 rfl ?_
                refine V_icmp_ge 197 98 rfl dX11_layHatted_95 rfl (fun c95 => ?_) (fun c95 => absurd (Int32.le_refl _) c95)
                exact V_lv [0, 1, 2, 3, 4] rfl (H197 _ _ (by rw [eLO]))
              · by_cases cb : (nI s >>> (nI h &&& 31)) &&& 1 = 0
                · have l8 := lt8c (cH K) (by omega) s (by omega) hs h hh cb
                  have n1 : ¬ (nI s >>> (nI h &&& 31)) &&& 1 = 1 := by rw [cb]; decide
                  have pl := (pA_ok (K := K) hfR D g m h).2
                  cases eo : LO D (pA K f D g) (cM K) (cH K) (cM K - (m + 1)) (s + 2 ^ h) with
                  | none =>
                    rw [fc_n (show qF (LO D (pA K f D g) (cM K) (cH K) (cM K - (m + 1))) (pA K f D g m) s h = none from by unfold qF; rw [if_pos cb, eo]; rfl)] at ih4
                    refine V_iload 91 0 rfl dX11_layHatted_89 rfl ?_
                    refine V_aload_n 92 4 rfl _ rfl rfl dX11_layHatted_91 rfl ?_
                    refine V_getI 95 69 11 21 (nI (cH K)) (show I2 69 21 = _ from by rw [hF2 69 (by decide)]; exact hK.1) flX11_175 rfl rfl rfl (by decide) dX11_layHatted_92 rfl ?_
                    refine V_icmp_ge 197 98 rfl dX11_layHatted_95 rfl (fun c95 => absurd c95 (nI_ge hh (by omega))) (fun c95 => ?_)
                    refine V_aload_n 99 4 rfl _ rfl rfl dX11_layHatted_98 rfl ?_
                    refine V_getR 102 69 11 40 88 (hRM 40) flX11_71 rfl rfl rfl (by decide) dX11_layHatted_99 rfl ?_
                    refine V_bipush 104 (30) rfl dX11_layHatted_102 rfl ?_
                    refine V_iload_n 105 3 rfl rfl dX11_layHatted_104 rfl ?_
                    refine V_iadd 106 dX11_layHatted_105 rfl ?_
                    refine V_rw (nI_add 30 m) ?_
                    refine V_ialdN 107 88 51 (30 + m) (D (30 + m)) (hN2 (30 + m) (by omega)) (by omega) (by decide) rfl (by decide) dX11_layHatted_106 rfl ?_
                    refine V_iconst 108 (1) rfl dX11_layHatted_107 rfl ?_
                    refine V_icmp_ne 197 111 rfl dX11_layHatted_108 rfl (fun c108 => absurd cl c108) (fun c108 => ?_)
                    refine V_iload_n 112 2 rfl rfl dX11_layHatted_111 rfl ?_
                    refine V_iload 114 0 rfl dX11_layHatted_112 rfl ?_
                    refine V_ishr 115 dX11_layHatted_114 rfl ?_
                    refine V_iconst 116 (1) rfl dX11_layHatted_115 rfl ?_
                    refine V_iand 117 dX11_layHatted_116 rfl ?_
                    refine V_iconst 118 (1) rfl dX11_layHatted_117 rfl ?_
                    refine V_icmp_ne 125 121 rfl dX11_layHatted_118 rfl (fun c118 => ?_) (fun c118 => absurd c118 n1)
                    refine V_aload_n 126 4 rfl _ rfl rfl dX11_layHatted_125 rfl ?_
                    refine V_getR 129 69 11 48 95 (hRM 48) flX11_92 rfl rfl rfl (by decide) dX11_layHatted_126 rfl ?_
                    refine V_iload_n 130 3 rfl rfl dX11_layHatted_129 rfl ?_
                    refine V_iconst 131 (1) rfl dX11_layHatted_130 rfl ?_
                    refine V_iadd 132 dX11_layHatted_131 rfl ?_
                    refine V_rw (nI_add m 1) ?_
                    refine V_bipush 134 (8) rfl dX11_layHatted_132 rfl ?_
                    refine V_ishl 135 dX11_layHatted_134 rfl ?_
                    refine V_iload_n 136 2 rfl rfl dX11_layHatted_135 rfl ?_
                    refine V_ior 137 dX11_layHatted_136 rfl ?_
                    refine V_rw (show _ = nI (256 * (m + 1) + s) from ix8 (m + 1) (by omega) s (by omega)) ?_
                    refine V_iconst 138 (1) rfl dX11_layHatted_137 rfl ?_
                    refine V_iload 140 0 rfl dX11_layHatted_138 rfl ?_
                    refine V_ishl 141 dX11_layHatted_140 rfl ?_
                    refine V_ior 142 dX11_layHatted_141 rfl ?_
                    refine V_rw (show _ = nI (256 * (m + 1) + (s + 2 ^ h)) from ix8h (by omega) (by omega) (by omega) cb) ?_
                    refine V_ialdN 143 95 1792 (256 * (m + 1) + (s + 2 ^ h)) (-1) ((hR2 (m + 1) (Nat.le_refl _) (by omega) (s + 2 ^ h) l8).trans (by rw [eo]; rfl)) (by omega) (by decide) rfl (by decide) dX11_layHatted_142 rfl ?_
                    refine V_istore 145 [(5, .int (-1)), (4, .int (nI h)), (3, .int (oI ((fcF (qF (LO D (pA K f D g) (cM K) (cH K) (cM K - (m + 1))) (pA K f D g m) s) h).map (·.2)))), (2, .int (nI s)), (1, .int (nI m)), (0, rf G 69)] (by decide) rfl dX11_layHatted_143 rfl ?_
                    refine V_iload 147 0 rfl dX11_layHatted_145 rfl ?_
                    refine V_iconst 148 (-1) rfl dX11_layHatted_147 rfl ?_
                    refine V_icmp_eq 191 151 rfl dX11_layHatted_148 rfl (fun c148 => ?_) (fun c148 => absurd rfl c148)
                    refine V_iinc 194 1 rfl (nI (h + 1)) [(4, .int (nI (h + 1))), (5, .int (-1)), (3, .int (oI ((fcF (qF (LO D (pA K f D g) (cM K) (cH K) (cM K - (m + 1))) (pA K f D g m) s) h).map (·.2)))), (2, .int (nI s)), (1, .int (nI m)), (0, rf G 69)] (nI_1 _) (by decide) rfl dX11_layHatted_191 rfl ?_
                    refine V_goto 89 rfl dX11_layHatted_194 ?_
                    exact V_lv [0, 2, 3, 4, 5] rfl ih4
                  | some v =>
                    have v6 := LO_600 hfR h6 eo
                    have eq : qF (LO D (pA K f D g) (cM K) (cH K) (cM K - (m + 1))) (pA K f D g m) s h = some (pA K f D g m h + v) := by unfold qF; rw [if_pos cb, eo]; rfl
                    cases e : fcF (qF (LO D (pA K f D g) (cM K) (cH K) (cM K - (m + 1))) (pA K f D g m) s) h with
                    | none =>
                      rw [fc_0 eq e] at ih4
                      show V _ _ _ _ _ _ _ _ [(4, .int (nI h)), (3, .int (-1)), (2, .int (nI s)), (1, .int (nI m)), (0, rf G 69)] [] _ _ _ _ _
                      refine V_iload 91 0 rfl dX11_layHatted_89 rfl ?_
                      refine V_aload_n 92 4 rfl _ rfl rfl dX11_layHatted_91 rfl ?_
                      refine V_getI 95 69 11 21 (nI (cH K)) (show I2 69 21 = _ from by rw [hF2 69 (by decide)]; exact hK.1) flX11_175 rfl rfl rfl (by decide) dX11_layHatted_92 rfl ?_
                      refine V_icmp_ge 197 98 rfl dX11_layHatted_95 rfl (fun c95 => absurd c95 (nI_ge hh (by omega))) (fun c95 => ?_)
                      refine V_aload_n 99 4 rfl _ rfl rfl dX11_layHatted_98 rfl ?_
                      refine V_getR 102 69 11 40 88 (hRM 40) flX11_71 rfl rfl rfl (by decide) dX11_layHatted_99 rfl ?_
                      refine V_bipush 104 (30) rfl dX11_layHatted_102 rfl ?_
                      refine V_iload_n 105 3 rfl rfl dX11_layHatted_104 rfl ?_
                      refine V_iadd 106 dX11_layHatted_105 rfl ?_
                      refine V_rw (nI_add 30 m) ?_
                      refine V_ialdN 107 88 51 (30 + m) (D (30 + m)) (hN2 (30 + m) (by omega)) (by omega) (by decide) rfl (by decide) dX11_layHatted_106 rfl ?_
                      refine V_iconst 108 (1) rfl dX11_layHatted_107 rfl ?_
                      refine V_icmp_ne 197 111 rfl dX11_layHatted_108 rfl (fun c108 => absurd cl c108) (fun c108 => ?_)
                      refine V_iload_n 112 2 rfl rfl dX11_layHatted_111 rfl ?_
                      refine V_iload 114 0 rfl dX11_layHatted_112 rfl ?_
                      refine V_ishr 115 dX11_layHatted_114 rfl ?_
                      refine V_iconst 116 (1) rfl dX11_layHatted_115 rfl ?_
                      refine V_iand 117 dX11_layHatted_116 rfl ?_
                      refine V_iconst 118 (1) rfl dX11_layHatted_117 rfl ?_
                      refine V_icmp_ne 125 121 rfl dX11_layHatted_118 rfl (fun c118 => ?_) (fun c118 => absurd c118 n1)
                      refine V_aload_n 126 4 rfl _ rfl rfl dX11_layHatted_125 rfl ?_
                      refine V_getR 129 69 11 48 95 (hRM 48) flX11_92 rfl rfl rfl (by decide) dX11_layHatted_126 rfl ?_
                      refine V_iload_n 130 3 rfl rfl dX11_layHatted_129 rfl ?_
                      refine V_iconst 131 (1) rfl dX11_layHatted_130 rfl ?_
                      refine V_iadd 132 dX11_layHatted_131 rfl ?_
                      refine V_rw (nI_add m 1) ?_
                      refine V_bipush 134 (8) rfl dX11_layHatted_132 rfl ?_
                      refine V_ishl 135 dX11_layHatted_134 rfl ?_
                      refine V_iload_n 136 2 rfl rfl dX11_layHatted_135 rfl ?_
                      refine V_ior 137 dX11_layHatted_136 rfl ?_
                      refine V_rw (show _ = nI (256 * (m + 1) + s) from ix8 (m + 1) (by omega) s (by omega)) ?_
                      refine V_iconst 138 (1) rfl dX11_layHatted_137 rfl ?_
                      refine V_iload 140 0 rfl dX11_layHatted_138 rfl ?_
                      refine V_ishl 141 dX11_layHatted_140 rfl ?_
                      refine V_ior 142 dX11_layHatted_141 rfl ?_
                      refine V_rw (show _ = nI (256 * (m + 1) + (s + 2 ^ h)) from ix8h (by omega) (by omega) (by omega) cb) ?_
                      refine V_ialdN 143 95 1792 (256 * (m + 1) + (s + 2 ^ h)) (nI v) ((hR2 (m + 1) (Nat.le_refl _) (by omega) (s + 2 ^ h) l8).trans (by rw [eo]; rfl)) (by omega) (by decide) rfl (by decide) dX11_layHatted_142 rfl ?_
                      refine V_istore 145 [(5, .int (nI v)), (4, .int (nI h)), (3, .int (-1)), (2, .int (nI s)), (1, .int (nI m)), (0, rf G 69)] (by decide) rfl dX11_layHatted_143 rfl ?_
                      refine V_iload 147 0 rfl dX11_layHatted_145 rfl ?_
                      refine V_iconst 148 (-1) rfl dX11_layHatted_147 rfl ?_
                      refine V_icmp_eq 191 151 rfl dX11_layHatted_148 rfl (fun c148 => absurd c148 (nI_ne (by omega))) (fun c148 => ?_)
                      refine V_iload_n 152 2 rfl rfl dX11_layHatted_151 rfl ?_
                      refine V_iconst 153 (-1) rfl dX11_layHatted_152 rfl ?_
                      refine V_icmp_eq 175 156 rfl dX11_layHatted_153 rfl (fun c153 => ?_) (fun c153 => absurd rfl c153)
                      refine V_aload_n 176 5 rfl _ rfl rfl dX11_layHatted_175 rfl ?_
                      refine V_getR 179 69 11 50 97 (hRM 50) flX11_98 rfl rfl rfl (by decide) dX11_layHatted_176 rfl ?_
                      refine V_bipush 181 (8) rfl dX11_layHatted_179 rfl ?_
                      refine V_iload_n 182 4 rfl rfl dX11_layHatted_181 rfl ?_
                      refine V_imul 183 dX11_layHatted_182 rfl ?_
                      refine V_rw (pk_mul 8 m) ?_
                      refine V_iload 185 1 rfl dX11_layHatted_183 rfl ?_
                      refine V_iadd 186 dX11_layHatted_185 rfl ?_
                      refine V_rw (nI_add (8 * m) h) ?_
                      refine V_ialdN 187 97 48 ((8 * m) + h) (nI (pA K f D g m h)) (by rw [hF2 97 (by decide)]; exact hCs m (by omega) cl h hh) (by omega) (by decide) rfl (by decide) dX11_layHatted_186 rfl ?_
                      refine V_iload 189 0 rfl dX11_layHatted_187 rfl ?_
                      refine V_iadd 190 dX11_layHatted_189 rfl ?_
                      refine V_rw (nI_add (pA K f D g m h) v) ?_
                      refine V_istore_n 191 [(3, .int (nI ((pA K f D g m h) + v))), (5, .int (nI v)), (4, .int (nI h)), (2, .int (nI s)), (1, .int (nI m)), (0, rf G 69)] (by decide) rfl rfl dX11_layHatted_190 rfl ?_
                      refine V_iinc 194 2 rfl (nI (h + 1)) [(4, .int (nI (h + 1))), (3, .int (nI ((pA K f D g m h) + v))), (5, .int (nI v)), (2, .int (nI s)), (1, .int (nI m)), (0, rf G 69)] (nI_1 _) (by decide) rfl dX11_layHatted_191 rfl ?_
                      refine V_goto 89 rfl dX11_layHatted_194 ?_
                      exact V_lv [0, 1, 3, 4, 5] rfl ih4
                    | some w =>
                      obtain ⟨w1, w2⟩ := w
                      have w9 : w2 ≤ 699 := by
                        obtain ⟨x1, x2, -, -⟩ := fc_some h w1 w2 e
                        unfold qF at x2
                        split at x2
                        · cases ex : LO D (pA K f D g) (cM K) (cH K) (cM K - (m + 1)) (s + 2 ^ w1) with
                          | none => rw [ex] at x2; cases x2
                          | some u =>
                            rw [ex] at x2
                            have x3 : pA K f D g m w1 + u = w2 := Option.some.inj x2
                            have := LO_600 hfR h6 ex
                            have := (pA_ok (K := K) hfR D g m w1).2
                            omega
                        · cases x2
                      rw [fc_1 eq e] at ih4
                      show V _ _ _ _ _ _ _ _ [(4, .int (nI h)), (3, .int (nI w2)), (2, .int (nI s)), (1, .int (nI m)), (0, rf G 69)] [] _ _ _ _ _
                      by_cases c3 : pA K f D g m h + v < w2
                      · rw [if_pos c3] at ih4
                        refine V_iload 91 0 rfl dX11_layHatted_89 rfl ?_
                        refine V_aload_n 92 4 rfl _ rfl rfl dX11_layHatted_91 rfl ?_
                        refine V_getI 95 69 11 21 (nI (cH K)) (show I2 69 21 = _ from by rw [hF2 69 (by decide)]; exact hK.1) flX11_175 rfl rfl rfl (by decide) dX11_layHatted_92 rfl ?_
                        refine V_icmp_ge 197 98 rfl dX11_layHatted_95 rfl (fun c95 => absurd c95 (nI_ge hh (by omega))) (fun c95 => ?_)
                        refine V_aload_n 99 4 rfl _ rfl rfl dX11_layHatted_98 rfl ?_
                        refine V_getR 102 69 11 40 88 (hRM 40) flX11_71 rfl rfl rfl (by decide) dX11_layHatted_99 rfl ?_
                        refine V_bipush 104 (30) rfl dX11_layHatted_102 rfl ?_
                        refine V_iload_n 105 3 rfl rfl dX11_layHatted_104 rfl ?_
                        refine V_iadd 106 dX11_layHatted_105 rfl ?_
                        refine V_rw (nI_add 30 m) ?_
                        refine V_ialdN 107 88 51 (30 + m) (D (30 + m)) (hN2 (30 + m) (by omega)) (by omega) (by decide) rfl (by decide) dX11_layHatted_106 rfl ?_
                        refine V_iconst 108 (1) rfl dX11_layHatted_107 rfl ?_
                        refine V_icmp_ne 197 111 rfl dX11_layHatted_108 rfl (fun c108 => absurd cl c108) (fun c108 => ?_)
                        refine V_iload_n 112 2 rfl rfl dX11_layHatted_111 rfl ?_
                        refine V_iload 114 0 rfl dX11_layHatted_112 rfl ?_
                        refine V_ishr 115 dX11_layHatted_114 rfl ?_
                        refine V_iconst 116 (1) rfl dX11_layHatted_115 rfl ?_
                        refine V_iand 117 dX11_layHatted_116 rfl ?_
                        refine V_iconst 118 (1) rfl dX11_layHatted_117 rfl ?_
                        refine V_icmp_ne 125 121 rfl dX11_layHatted_118 rfl (fun c118 => ?_) (fun c118 => absurd c118 n1)
                        refine V_aload_n 126 4 rfl _ rfl rfl dX11_layHatted_125 rfl ?_
                        refine V_getR 129 69 11 48 95 (hRM 48) flX11_92 rfl rfl rfl (by decide) dX11_layHatted_126 rfl ?_
                        refine V_iload_n 130 3 rfl rfl dX11_layHatted_129 rfl ?_
                        refine V_iconst 131 (1) rfl dX11_layHatted_130 rfl ?_
                        refine V_iadd 132 dX11_layHatted_131 rfl ?_
                        refine V_rw (nI_add m 1) ?_
                        refine V_bipush 134 (8) rfl dX11_layHatted_132 rfl ?_
                        refine V_ishl 135 dX11_layHatted_134 rfl ?_
                        refine V_iload_n 136 2 rfl rfl dX11_layHatted_135 rfl ?_
                        refine V_ior 137 dX11_layHatted_136 rfl ?_
                        refine V_rw (show _ = nI (256 * (m + 1) + s) from ix8 (m + 1) (by omega) s (by omega)) ?_
                        refine V_iconst 138 (1) rfl dX11_layHatted_137 rfl ?_
                        refine V_iload 140 0 rfl dX11_layHatted_138 rfl ?_
                        refine V_ishl 141 dX11_layHatted_140 rfl ?_
                        refine V_ior 142 dX11_layHatted_141 rfl ?_
                        refine V_rw (show _ = nI (256 * (m + 1) + (s + 2 ^ h)) from ix8h (by omega) (by omega) (by omega) cb) ?_
                        refine V_ialdN 143 95 1792 (256 * (m + 1) + (s + 2 ^ h)) (nI v) ((hR2 (m + 1) (Nat.le_refl _) (by omega) (s + 2 ^ h) l8).trans (by rw [eo]; rfl)) (by omega) (by decide) rfl (by decide) dX11_layHatted_142 rfl ?_
                        refine V_istore 145 [(5, .int (nI v)), (4, .int (nI h)), (3, .int (nI w2)), (2, .int (nI s)), (1, .int (nI m)), (0, rf G 69)] (by decide) rfl dX11_layHatted_143 rfl ?_
                        refine V_iload 147 0 rfl dX11_layHatted_145 rfl ?_
                        refine V_iconst 148 (-1) rfl dX11_layHatted_147 rfl ?_
                        refine V_icmp_eq 191 151 rfl dX11_layHatted_148 rfl (fun c148 => absurd c148 (nI_ne (by omega))) (fun c148 => ?_)
                        refine V_iload_n 152 2 rfl rfl dX11_layHatted_151 rfl ?_
                        refine V_iconst 153 (-1) rfl dX11_layHatted_152 rfl ?_
                        refine V_icmp_eq 175 156 rfl dX11_layHatted_153 rfl (fun c153 => absurd c153 (nI_ne (by omega))) (fun c153 => ?_)
                        refine V_aload_n 157 5 rfl _ rfl rfl dX11_layHatted_156 rfl ?_
                        refine V_getR 160 69 11 50 97 (hRM 50) flX11_98 rfl rfl rfl (by decide) dX11_layHatted_157 rfl ?_
                        refine V_bipush 162 (8) rfl dX11_layHatted_160 rfl ?_
                        refine V_iload_n 163 4 rfl rfl dX11_layHatted_162 rfl ?_
                        refine V_imul 164 dX11_layHatted_163 rfl ?_
                        refine V_rw (pk_mul 8 m) ?_
                        refine V_iload 166 1 rfl dX11_layHatted_164 rfl ?_
                        refine V_iadd 167 dX11_layHatted_166 rfl ?_
                        refine V_rw (nI_add (8 * m) h) ?_
                        refine V_ialdN 168 97 48 ((8 * m) + h) (nI (pA K f D g m h)) (by rw [hF2 97 (by decide)]; exact hCs m (by omega) cl h hh) (by omega) (by decide) rfl (by decide) dX11_layHatted_167 rfl ?_
                        refine V_iload 170 0 rfl dX11_layHatted_168 rfl ?_
                        refine V_iadd 171 dX11_layHatted_170 rfl ?_
                        refine V_rw (nI_add (pA K f D g m h) v) ?_
                        refine V_iload_n 172 2 rfl rfl dX11_layHatted_171 rfl ?_
                        refine V_icmp_ge 191 175 rfl dX11_layHatted_172 rfl (fun c172 => absurd c172 (nI_ge c3 (by omega))) (fun c172 => ?_)
                        refine V_aload_n 176 5 rfl _ rfl rfl dX11_layHatted_175 rfl ?_
                        refine V_getR 179 69 11 50 97 (hRM 50) flX11_98 rfl rfl rfl (by decide) dX11_layHatted_176 rfl ?_
                        refine V_bipush 181 (8) rfl dX11_layHatted_179 rfl ?_
                        refine V_iload_n 182 4 rfl rfl dX11_layHatted_181 rfl ?_
                        refine V_imul 183 dX11_layHatted_182 rfl ?_
                        refine V_rw (pk_mul 8 m) ?_
                        refine V_iload 185 1 rfl dX11_layHatted_183 rfl ?_
                        refine V_iadd 186 dX11_layHatted_185 rfl ?_
                        refine V_rw (nI_add (8 * m) h) ?_
                        refine V_ialdN 187 97 48 ((8 * m) + h) (nI (pA K f D g m h)) (by rw [hF2 97 (by decide)]; exact hCs m (by omega) cl h hh) (by omega) (by decide) rfl (by decide) dX11_layHatted_186 rfl ?_
                        refine V_iload 189 0 rfl dX11_layHatted_187 rfl ?_
                        refine V_iadd 190 dX11_layHatted_189 rfl ?_
                        refine V_rw (nI_add (pA K f D g m h) v) ?_
                        refine V_istore_n 191 [(3, .int (nI ((pA K f D g m h) + v))), (5, .int (nI v)), (4, .int (nI h)), (2, .int (nI s)), (1, .int (nI m)), (0, rf G 69)] (by decide) rfl rfl dX11_layHatted_190 rfl ?_
                        refine V_iinc 194 2 rfl (nI (h + 1)) [(4, .int (nI (h + 1))), (3, .int (nI ((pA K f D g m h) + v))), (5, .int (nI v)), (2, .int (nI s)), (1, .int (nI m)), (0, rf G 69)] (nI_1 _) (by decide) rfl dX11_layHatted_191 rfl ?_
                        refine V_goto 89 rfl dX11_layHatted_194 ?_
                        exact V_lv [0, 1, 3, 4, 5] rfl ih4
                      · rw [if_neg c3] at ih4
                        refine V_iload 91 0 rfl dX11_layHatted_89 rfl ?_
                        refine V_aload_n 92 4 rfl _ rfl rfl dX11_layHatted_91 rfl ?_
                        refine V_getI 95 69 11 21 (nI (cH K)) (show I2 69 21 = _ from by rw [hF2 69 (by decide)]; exact hK.1) flX11_175 rfl rfl rfl (by decide) dX11_layHatted_92 rfl ?_
                        refine V_icmp_ge 197 98 rfl dX11_layHatted_95 rfl (fun c95 => absurd c95 (nI_ge hh (by omega))) (fun c95 => ?_)
                        refine V_aload_n 99 4 rfl _ rfl rfl dX11_layHatted_98 rfl ?_
                        refine V_getR 102 69 11 40 88 (hRM 40) flX11_71 rfl rfl rfl (by decide) dX11_layHatted_99 rfl ?_
                        refine V_bipush 104 (30) rfl dX11_layHatted_102 rfl ?_
                        refine V_iload_n 105 3 rfl rfl dX11_layHatted_104 rfl ?_
                        refine V_iadd 106 dX11_layHatted_105 rfl ?_
                        refine V_rw (nI_add 30 m) ?_
                        refine V_ialdN 107 88 51 (30 + m) (D (30 + m)) (hN2 (30 + m) (by omega)) (by omega) (by decide) rfl (by decide) dX11_layHatted_106 rfl ?_
                        refine V_iconst 108 (1) rfl dX11_layHatted_107 rfl ?_
                        refine V_icmp_ne 197 111 rfl dX11_layHatted_108 rfl (fun c108 => absurd cl c108) (fun c108 => ?_)
                        refine V_iload_n 112 2 rfl rfl dX11_layHatted_111 rfl ?_
                        refine V_iload 114 0 rfl dX11_layHatted_112 rfl ?_
                        refine V_ishr 115 dX11_layHatted_114 rfl ?_
                        refine V_iconst 116 (1) rfl dX11_layHatted_115 rfl ?_
                        refine V_iand 117 dX11_layHatted_116 rfl ?_
                        refine V_iconst 118 (1) rfl dX11_layHatted_117 rfl ?_
                        refine V_icmp_ne 125 121 rfl dX11_layHatted_118 rfl (fun c118 => ?_) (fun c118 => absurd c118 n1)
                        refine V_aload_n 126 4 rfl _ rfl rfl dX11_layHatted_125 rfl ?_
                        refine V_getR 129 69 11 48 95 (hRM 48) flX11_92 rfl rfl rfl (by decide) dX11_layHatted_126 rfl ?_
                        refine V_iload_n 130 3 rfl rfl dX11_layHatted_129 rfl ?_
                        refine V_iconst 131 (1) rfl dX11_layHatted_130 rfl ?_
                        refine V_iadd 132 dX11_layHatted_131 rfl ?_
                        refine V_rw (nI_add m 1) ?_
                        refine V_bipush 134 (8) rfl dX11_layHatted_132 rfl ?_
                        refine V_ishl 135 dX11_layHatted_134 rfl ?_
                        refine V_iload_n 136 2 rfl rfl dX11_layHatted_135 rfl ?_
                        refine V_ior 137 dX11_layHatted_136 rfl ?_
                        refine V_rw (show _ = nI (256 * (m + 1) + s) from ix8 (m + 1) (by omega) s (by omega)) ?_
                        refine V_iconst 138 (1) rfl dX11_layHatted_137 rfl ?_
                        refine V_iload 140 0 rfl dX11_layHatted_138 rfl ?_
                        refine V_ishl 141 dX11_layHatted_140 rfl ?_
                        refine V_ior 142 dX11_layHatted_141 rfl ?_
                        refine V_rw (show _ = nI (256 * (m + 1) + (s + 2 ^ h)) from ix8h (by omega) (by omega) (by omega) cb) ?_
                        refine V_ialdN 143 95 1792 (256 * (m + 1) + (s + 2 ^ h)) (nI v) ((hR2 (m + 1) (Nat.le_refl _) (by omega) (s + 2 ^ h) l8).trans (by rw [eo]; rfl)) (by omega) (by decide) rfl (by decide) dX11_layHatted_142 rfl ?_
                        refine V_istore 145 [(5, .int (nI v)), (4, .int (nI h)), (3, .int (nI w2)), (2, .int (nI s)), (1, .int (nI m)), (0, rf G 69)] (by decide) rfl dX11_layHatted_143 rfl ?_
                        refine V_iload 147 0 rfl dX11_layHatted_145 rfl ?_
                        refine V_iconst 148 (-1) rfl dX11_layHatted_147 rfl ?_
                        refine V_icmp_eq 191 151 rfl dX11_layHatted_148 rfl (fun c148 => absurd c148 (nI_ne (by omega))) (fun c148 => ?_)
                        refine V_iload_n 152 2 rfl rfl dX11_layHatted_151 rfl ?_
                        refine V_iconst 153 (-1) rfl dX11_layHatted_152 rfl ?_
                        refine V_icmp_eq 175 156 rfl dX11_layHatted_153 rfl (fun c153 => absurd c153 (nI_ne (by omega))) (fun c153 => ?_)
                        refine V_aload_n 157 5 rfl _ rfl rfl dX11_layHatted_156 rfl ?_
                        refine V_getR 160 69 11 50 97 (hRM 50) flX11_98 rfl rfl rfl (by decide) dX11_layHatted_157 rfl ?_
                        refine V_bipush 162 (8) rfl dX11_layHatted_160 rfl ?_
                        refine V_iload_n 163 4 rfl rfl dX11_layHatted_162 rfl ?_
                        refine V_imul 164 dX11_layHatted_163 rfl ?_
                        refine V_rw (pk_mul 8 m) ?_
                        refine V_iload 166 1 rfl dX11_layHatted_164 rfl ?_
                        refine V_iadd 167 dX11_layHatted_166 rfl ?_
                        refine V_rw (nI_add (8 * m) h) ?_
                        refine V_ialdN 168 97 48 ((8 * m) + h) (nI (pA K f D g m h)) (by rw [hF2 97 (by decide)]; exact hCs m (by omega) cl h hh) (by omega) (by decide) rfl (by decide) dX11_layHatted_167 rfl ?_
                        refine V_iload 170 0 rfl dX11_layHatted_168 rfl ?_
                        refine V_iadd 171 dX11_layHatted_170 rfl ?_
                        refine V_rw (nI_add (pA K f D g m h) v) ?_
                        refine V_iload_n 172 2 rfl rfl dX11_layHatted_171 rfl ?_
                        refine V_icmp_ge 191 175 rfl dX11_layHatted_172 rfl (fun c172 => ?_) (fun c172 => absurd (nI_le (show w2 ≤ pA K f D g m h + v by omega) (by omega)) c172)
                        refine V_iinc 194 1 rfl (nI (h + 1)) [(4, .int (nI (h + 1))), (5, .int (nI v)), (3, .int (nI w2)), (2, .int (nI s)), (1, .int (nI m)), (0, rf G 69)] (nI_1 _) (by decide) rfl dX11_layHatted_191 rfl ?_
                        refine V_goto 89 rfl dX11_layHatted_194 ?_
                        exact V_lv [0, 2, 3, 4, 5] rfl ih4
                · rw [fc_n (show qF (LO D (pA K f D g) (cM K) (cH K) (cM K - (m + 1))) (pA K f D g m) s h = none from if_neg cb)] at ih4
                  refine V_iload 91 0 rfl dX11_layHatted_89 rfl ?_
                  refine V_aload_n 92 4 rfl _ rfl rfl dX11_layHatted_91 rfl ?_
                  refine V_getI 95 69 11 21 (nI (cH K)) (show I2 69 21 = _ from by rw [hF2 69 (by decide)]; exact hK.1) flX11_175 rfl rfl rfl (by decide) dX11_layHatted_92 rfl ?_
                  refine V_icmp_ge 197 98 rfl dX11_layHatted_95 rfl (fun c95 => absurd c95 (nI_ge hh (by omega))) (fun c95 => ?_)
                  refine V_aload_n 99 4 rfl _ rfl rfl dX11_layHatted_98 rfl ?_
                  refine V_getR 102 69 11 40 88 (hRM 40) flX11_71 rfl rfl rfl (by decide) dX11_layHatted_99 rfl ?_
                  refine V_bipush 104 (30) rfl dX11_layHatted_102 rfl ?_
                  refine V_iload_n 105 3 rfl rfl dX11_layHatted_104 rfl ?_
                  refine V_iadd 106 dX11_layHatted_105 rfl ?_
                  refine V_rw (nI_add 30 m) ?_
                  refine V_ialdN 107 88 51 (30 + m) (D (30 + m)) (hN2 (30 + m) (by omega)) (by omega) (by decide) rfl (by decide) dX11_layHatted_106 rfl ?_
                  refine V_iconst 108 (1) rfl dX11_layHatted_107 rfl ?_
                  refine V_icmp_ne 197 111 rfl dX11_layHatted_108 rfl (fun c108 => absurd cl c108) (fun c108 => ?_)
                  refine V_iload_n 112 2 rfl rfl dX11_layHatted_111 rfl ?_
                  refine V_iload 114 0 rfl dX11_layHatted_112 rfl ?_
                  refine V_ishr 115 dX11_layHatted_114 rfl ?_
                  refine V_iconst 116 (1) rfl dX11_layHatted_115 rfl ?_
                  refine V_iand 117 dX11_layHatted_116 rfl ?_
                  refine V_iconst 118 (1) rfl dX11_layHatted_117 rfl ?_
                  refine V_icmp_ne 125 121 rfl dX11_layHatted_118 rfl (fun c118 => absurd ((and01 (nI s >>> (nI h &&& 31))).resolve_left cb) c118) (fun c118 => ?_)
                  refine V_iconst 122 (-1) rfl dX11_layHatted_121 rfl ?_
                  refine V_goto 143 rfl dX11_layHatted_122 ?_
                  refine V_istore 145 [(5, .int (-1)), (4, .int (nI h)), (3, .int (oI ((fcF (qF (LO D (pA K f D g) (cM K) (cH K) (cM K - (m + 1))) (pA K f D g m) s) h).map (·.2)))), (2, .int (nI s)), (1, .int (nI m)), (0, rf G 69)] (by decide) rfl dX11_layHatted_143 rfl ?_
                  refine V_iload 147 0 rfl dX11_layHatted_145 rfl ?_
                  refine V_iconst 148 (-1) rfl dX11_layHatted_147 rfl ?_
                  refine V_icmp_eq 191 151 rfl dX11_layHatted_148 rfl (fun c148 => ?_) (fun c148 => absurd rfl c148)
                  refine V_iinc 194 1 rfl (nI (h + 1)) [(4, .int (nI (h + 1))), (5, .int (-1)), (3, .int (oI ((fcF (qF (LO D (pA K f D g) (cM K) (cH K) (cM K - (m + 1))) (pA K f D g m) s) h).map (·.2)))), (2, .int (nI s)), (1, .int (nI m)), (0, rf G 69)] (nI_1 _) (by decide) rfl dX11_layHatted_191 rfl ?_
                  refine V_goto 89 rfl dX11_layHatted_194 ?_
                  exact V_lv [0, 2, 3, 4, 5] rfl ih4
            refine V_iload_n 47 0 rfl rfl dX11_layHatted_46 rfl ?_
            refine V_iconst 48 (1) rfl dX11_layHatted_47 rfl ?_
            refine V_aload_n 49 2 rfl _ rfl rfl dX11_layHatted_48 rfl ?_
            refine V_getI 52 69 11 21 (nI (cH K)) (show I2 69 21 = _ from by rw [hF2 69 (by decide)]; exact hK.1) flX11_175 rfl rfl rfl (by decide) dX11_layHatted_49 rfl ?_
            refine V_ishl 53 dX11_layHatted_52 rfl ?_
            refine V_rw (show _ = nI (2 ^ cH K) from sh8 (cH K) (by omega)) ?_
            refine V_icmp_ge 215 56 rfl dX11_layHatted_53 rfl (fun c53 => absurd c53 (nI_ge hs (by omega))) (fun c53 => ?_)
            refine V_aload_n 57 2 rfl _ rfl rfl dX11_layHatted_56 rfl ?_
            refine V_getR 60 69 11 40 88 (hRM 40) flX11_71 rfl rfl rfl (by decide) dX11_layHatted_57 rfl ?_
            refine V_bipush 62 (30) rfl dX11_layHatted_60 rfl ?_
            refine V_iload_n 63 1 rfl rfl dX11_layHatted_62 rfl ?_
            refine V_iadd 64 dX11_layHatted_63 rfl ?_
            refine V_rw (nI_add 30 m) ?_
            refine V_ialdN 65 88 51 (30 + m) (D (30 + m)) (hN2 (30 + m) (by omega)) (by omega) (by decide) rfl (by decide) dX11_layHatted_64 rfl ?_
            refine V_if_ne 84 68 rfl dX11_layHatted_65 rfl (fun c65 => ?_) (fun c65 => absurd c65 (by rw [cl]; decide))
            refine V_iconst 85 (-1) rfl dX11_layHatted_84 rfl ?_
            refine V_istore_n 86 [(3, .int (-1)), (2, .int (nI s)), (1, .int (nI m)), (0, rf G 69)] (by decide) rfl rfl dX11_layHatted_85 rfl ?_
            refine V_iconst 87 (0) rfl dX11_layHatted_86 rfl ?_
            refine V_istore 89 [(4, .int 0), (3, .int (-1)), (2, .int (nI s)), (1, .int (nI m)), (0, rf G 69)] (by decide) rfl dX11_layHatted_87 rfl ?_
            exact V_lv [0, 1, 2, 3, 4] rfl (L4 0 (Nat.zero_le _))
          · rw [if_neg cl] at eLO
            refine V_iload_n 47 0 rfl rfl dX11_layHatted_46 rfl ?_
            refine V_iconst 48 (1) rfl dX11_layHatted_47 rfl ?_
            refine V_aload_n 49 2 rfl _ rfl rfl dX11_layHatted_48 rfl ?_
            refine V_getI 52 69 11 21 (nI (cH K)) (show I2 69 21 = _ from by rw [hF2 69 (by decide)]; exact hK.1) flX11_175 rfl rfl rfl (by decide) dX11_layHatted_49 rfl ?_
            refine V_ishl 53 dX11_layHatted_52 rfl ?_
            refine V_rw (show _ = nI (2 ^ cH K) from sh8 (cH K) (by omega)) ?_
            refine V_icmp_ge 215 56 rfl dX11_layHatted_53 rfl (fun c53 => absurd c53 (nI_ge hs (by omega))) (fun c53 => ?_)
            refine V_aload_n 57 2 rfl _ rfl rfl dX11_layHatted_56 rfl ?_
            refine V_getR 60 69 11 40 88 (hRM 40) flX11_71 rfl rfl rfl (by decide) dX11_layHatted_57 rfl ?_
            refine V_bipush 62 (30) rfl dX11_layHatted_60 rfl ?_
            refine V_iload_n 63 1 rfl rfl dX11_layHatted_62 rfl ?_
            refine V_iadd 64 dX11_layHatted_63 rfl ?_
            refine V_rw (nI_add 30 m) ?_
            refine V_ialdN 65 88 51 (30 + m) (D (30 + m)) (hN2 (30 + m) (by omega)) (by omega) (by decide) rfl (by decide) dX11_layHatted_64 rfl ?_
            refine V_if_ne 84 68 rfl dX11_layHatted_65 rfl (fun c65 => absurd ((hFl m (by omega)).resolve_right cl) c65) (fun c65 => ?_)
            refine V_aload_n 69 2 rfl _ rfl rfl dX11_layHatted_68 rfl ?_
            refine V_getR 72 69 11 48 95 (hRM 48) flX11_92 rfl rfl rfl (by decide) dX11_layHatted_69 rfl ?_
            refine V_iload_n 73 1 rfl rfl dX11_layHatted_72 rfl ?_
            refine V_iconst 74 (1) rfl dX11_layHatted_73 rfl ?_
            refine V_iadd 75 dX11_layHatted_74 rfl ?_
            refine V_rw (nI_add m 1) ?_
            refine V_bipush 77 (8) rfl dX11_layHatted_75 rfl ?_
            refine V_ishl 78 dX11_layHatted_77 rfl ?_
            refine V_iload_n 79 0 rfl rfl dX11_layHatted_78 rfl ?_
            refine V_ior 80 dX11_layHatted_79 rfl ?_
            refine V_rw (show _ = nI (256 * (m + 1) + s) from ix8 (m + 1) (by omega) s (by omega)) ?_
            refine V_ialdN 81 95 1792 (256 * (m + 1) + s) (oI (LO D (pA K f D g) (cM K) (cH K) (cM K - (m + 1)) s)) (hR2 (m + 1) (Nat.le_refl _) (by omega) s hs) (by omega) (by decide) rfl (by decide) dX11_layHatted_80 rfl ?_
            refine V_goto 85 rfl dX11_layHatted_81 ?_
            refine V_istore_n 86 [(3, .int (oI (LO D (pA K f D g) (cM K) (cH K) (cM K - (m + 1)) s))), (2, .int (nI s)), (1, .int (nI m)), (0, rf G 69)] (by decide) rfl rfl dX11_layHatted_85 rfl ?_
            refine V_iconst 87 (0) rfl dX11_layHatted_86 rfl ?_
            refine V_istore 89 [(4, .int 0), (3, .int (oI (LO D (pA K f D g) (cM K) (cH K) (cM K - (m + 1)) s))), (2, .int (nI s)), (1, .int (nI m)), (0, rf G 69)] (by decide) rfl dX11_layHatted_87 rfl ?_
            refine V_iload 91 0 rfl dX11_layHatted_89 rfl ?_
            refine V_aload_n 92 4 rfl _ rfl rfl dX11_layHatted_91 rfl ?_
            refine V_getI 95 69 11 21 (nI (cH K)) (show I2 69 21 = _ from by rw [hF2 69 (by decide)]; exact hK.1) flX11_175 rfl rfl rfl (by decide) dX11_layHatted_92 rfl ?_
            refine V_icmp_ge 197 98 rfl dX11_layHatted_95 rfl (fun c95 => ?_) (fun c95 => ?_)
            · exact V_lv [0, 1, 2, 3, 4] rfl (H197 _ _ (by rw [eLO]))
            · refine V_aload_n 99 4 rfl _ rfl rfl dX11_layHatted_98 rfl ?_
              refine V_getR 102 69 11 40 88 (hRM 40) flX11_71 rfl rfl rfl (by decide) dX11_layHatted_99 rfl ?_
              refine V_bipush 104 (30) rfl dX11_layHatted_102 rfl ?_
              refine V_iload_n 105 3 rfl rfl dX11_layHatted_104 rfl ?_
              refine V_iadd 106 dX11_layHatted_105 rfl ?_
              refine V_rw (nI_add 30 m) ?_
              refine V_ialdN 107 88 51 (30 + m) (D (30 + m)) (hN2 (30 + m) (by omega)) (by omega) (by decide) rfl (by decide) dX11_layHatted_106 rfl ?_
              refine V_iconst 108 (1) rfl dX11_layHatted_107 rfl ?_
              refine V_icmp_ne 197 111 rfl dX11_layHatted_108 rfl (fun c108 => ?_) (fun c108 => absurd c108 cl)
              exact V_lv [0, 1, 2, 3, 4] rfl (H197 _ _ (by rw [eLO]))
      refine V_iload_n 41 0 rfl rfl dX11_layHatted_40 rfl ?_
      refine V_if_lt 221 44 rfl dX11_layHatted_41 rfl (fun c41 => absurd c41 (Int32.not_lt.mpr (nI_le (a := 0) (Nat.zero_le m) (by omega)))) (fun c41 => ?_)
      refine V_iconst 45 (0) rfl dX11_layHatted_44 rfl ?_
      refine V_istore_n 46 [(2, .int 0), (1, .int (nI m)), (0, rf G 69)] (by decide) rfl rfl dX11_layHatted_45 rfl ?_
      exact V_lv [0, 1, 2] rfl (L3 0 (Nat.zero_le _) I1 hF1 hR1 (fun s q => absurd q (Nat.not_lt_zero _)))
  have L1 : ∀ s, s ≤ 2 ^ cH K → ∀ I1, (∀ a, a ≠ 95 → I1 a = I a) → (∀ s', s' < s → I1 95 (256 * cM K + s') = 0) → V G mX11_layHatted d 0 0 0 0 2 [(1, .int (nI s)), (0, rf G 69)] [] 103 I1 R J Q := by
    refine loopd (2 ^ cH K) (fun I1 hF1 hT1 => ?_) (fun s hs ih I1 hF1 hT1 => ?_)
    · refine V_iload_n 3 0 rfl rfl dX11_layHatted_2 rfl ?_
      refine V_iconst 4 (1) rfl dX11_layHatted_3 rfl ?_
      refine V_aload_n 5 1 rfl _ rfl rfl dX11_layHatted_4 rfl ?_
      refine V_getI 8 69 11 21 (nI (cH K)) (show I1 69 21 = _ from by rw [hF1 69 (by decide)]; exact hK.1) flX11_175 rfl rfl rfl (by decide) dX11_layHatted_5 rfl ?_
      refine V_ishl 9 dX11_layHatted_8 rfl ?_
      refine V_rw (show _ = nI (2 ^ cH K) from sh8 (cH K) (by omega)) ?_
      refine V_icmp_ge 33 12 rfl dX11_layHatted_9 rfl (fun c9 => ?_) (fun c9 => absurd (Int32.le_refl _) c9)
      refine V_aload_n 34 1 rfl _ rfl rfl dX11_layHatted_33 rfl ?_
      refine V_getI 37 69 11 23 (nI (cM K)) (show I1 69 23 = _ from by rw [hF1 69 (by decide)]; exact hK.2.2.1) flX11_181 rfl rfl rfl (by decide) dX11_layHatted_34 rfl ?_
      refine V_iconst 38 (1) rfl dX11_layHatted_37 rfl ?_
      refine V_isub 39 dX11_layHatted_38 rfl ?_
      refine V_istore_n 40 [(1, .int ((nI (cM K)) - 1)), (0, rf G 69)] (by decide) rfl rfl dX11_layHatted_39 rfl ?_
      refine V_lv [0, 1] rfl (L2 (cM K) (Nat.le_refl _) _ I1 rfl hF1 (fun m q1 q2 s q3 => ?_))
      have e : m = cM K := by omega
      subst e
      rw [Nat.sub_self, hT1 s q3]; rfl
    · refine V_iload_n 3 0 rfl rfl dX11_layHatted_2 rfl ?_
      refine V_iconst 4 (1) rfl dX11_layHatted_3 rfl ?_
      refine V_aload_n 5 1 rfl _ rfl rfl dX11_layHatted_4 rfl ?_
      refine V_getI 8 69 11 21 (nI (cH K)) (show I1 69 21 = _ from by rw [hF1 69 (by decide)]; exact hK.1) flX11_175 rfl rfl rfl (by decide) dX11_layHatted_5 rfl ?_
      refine V_ishl 9 dX11_layHatted_8 rfl ?_
      refine V_rw (show _ = nI (2 ^ cH K) from sh8 (cH K) (by omega)) ?_
      refine V_icmp_ge 33 12 rfl dX11_layHatted_9 rfl (fun c9 => absurd c9 (nI_ge hs (by omega))) (fun c9 => ?_)
      refine V_aload_n 13 1 rfl _ rfl rfl dX11_layHatted_12 rfl ?_
      refine V_getR 16 69 11 48 95 (hRM 48) flX11_92 rfl rfl rfl (by decide) dX11_layHatted_13 rfl ?_
      refine V_aload_n 17 1 rfl _ rfl rfl dX11_layHatted_16 rfl ?_
      refine V_getI 20 69 11 23 (nI (cM K)) (show I1 69 23 = _ from by rw [hF1 69 (by decide)]; exact hK.2.2.1) flX11_181 rfl rfl rfl (by decide) dX11_layHatted_17 rfl ?_
      refine V_bipush 22 (8) rfl dX11_layHatted_20 rfl ?_
      refine V_ishl 23 dX11_layHatted_22 rfl ?_
      refine V_iload_n 24 0 rfl rfl dX11_layHatted_23 rfl ?_
      refine V_ior 25 dX11_layHatted_24 rfl ?_
      refine V_rw (show _ = nI (256 * cM K + s) from ix8 (cM K) (by omega) s (by omega)) ?_
      refine V_iconst 26 (0) rfl dX11_layHatted_25 rfl ?_
      refine V_iastN 27 95 1792 (256 * cM K + s) (by omega) (by decide) rfl (by decide) dX11_layHatted_26 rfl ?_
      refine V_iinc 30 0 rfl (nI (s + 1)) [(1, .int (nI (s + 1))), (0, rf G 69)] (nI_1 _) (by decide) rfl dX11_layHatted_27 rfl ?_
      refine V_goto 2 rfl dX11_layHatted_30 ?_
      refine V_lv [0, 1] rfl (ih _ (fun a q => by rw [up2_n _ _ _ q]; exact hF1 a q) (fun s2 q => ?_))
      rw [up2_s]
      by_cases e : s2 = s
      · subst e; exact upd_s
      · rw [upd_n (by omega)]; exact hT1 s2 (by omega)
  show V _ _ _ _ _ _ _ _ [(0, rf G 69)] [] _ _ _ _ _
  refine V_iconst 1 (0) rfl dX11_layHatted_0 rfl ?_
  refine V_istore_n 2 [(1, .int 0), (0, rf G 69)] (by decide) rfl rfl dX11_layHatted_1 rfl ?_
  exact V_lv [0, 1] rfl (L1 0 (Nat.zero_le _) I (fun _ _ => rfl) (fun s q => absurd q (Nat.not_lt_zero _)))
