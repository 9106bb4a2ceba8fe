/-! ===== fits, look: the reference ===== -/
def Fr8 (I I' : FI) : Prop := ∀ a, a ≠ 84 → a ≠ 85 → (a < 94 ∨ 100 < a) → I' a = I a
theorem Fr8.rf {I : FI} : Fr8 I I := fun _ _ _ _ => rfl
theorem Fr8.tr {I I1 I2 : FI} (h : Fr8 I I1) (h2 : Fr8 I1 I2) : Fr8 I I2 := fun a q1 q2 q3 => (h2 a q1 q2 q3).trans (h a q1 q2 q3)
theorem Fr8.f4 {I I' : FI} (h : Fr4 I I') : Fr8 I I' := fun a q1 q2 q3 => h a q1 q2 (by omega)
theorem Fr8.u {I I' : FI} {b j : Nat} {v : Int32} (h : Fr8 I I') (hb : 94 ≤ b ∧ b ≤ 100) : Fr8 I (up2 I' b j v) := fun a q1 q2 q3 => by rw [up2_n _ _ _ (by omega)]; exact h a q1 q2 q3
theorem Fr8.K {I I' : FI} {K : CO} (h : Fr8 I I') (hK : CoastM I K) : CoastM I' K := hK.fr (by rw [h 69 (by decide) (by decide) (by decide)]) (by rw [h 69 (by decide) (by decide) (by decide)]) (by rw [h 69 (by decide) (by decide) (by decide)]) (fun a q1 q2 => h a (by omega) (by omega) (by omega))
theorem Fr8.L {I I' : FI} {f : DV → Int32} (h : Fr8 I I') (hL : LawM I f) : LawM I' f := hL.fr (by rw [h 69 (by decide) (by decide) (by decide)]) (h 82 (by decide) (by decide) (by decide)) (h 83 (by decide) (by decide) (by decide))
theorem Fr8.N {I I' : FI} {D : DV} (h : Fr8 I I') (hN : ∀ k, k < 51 → I 88 k = D k) : ∀ k, k < 51 → I' 88 k = D k := fun k hk => by rw [h 88 (by decide) (by decide) (by decide)]; exact hN k hk
theorem Fr8.B {I I' : FI} {bk : Nat → Option Nat} (h : Fr8 I I') (hB : ∀ k, k < 24 → I 93 k = oI (bk k)) : ∀ k, k < 24 → I' 93 k = oI (bk k) := fun k hk => by rw [h 93 (by decide) (by decide) (by decide)]; exact hB k hk
theorem FrM.go8 {I I1 I2 : FI} (h : FrM I I1) (h2 : Fr8 I1 I2) : FrM I I2 := h.go (fun a q1 q2 _ _ q5 => h2 a q1 q2 (by omega))
def PrM (I : FI) (K : CO) (f : DV → Int32) (D : DV) (bk : Nat → Option Nat) (m h g : Nat) : Prop := (∀ k, k < 24 → I 98 (24 * (6 * h + g) + k) = alS K f D m h g k) ∧ I 99 (6 * h + g) = if fiB (alS K f D m h g) bk 24 = true then 1 else 0
set_option maxHeartbeats 8000000 in
theorem c_X11_findPairs {G : Gx} {d : Nat} {I : FI} {R : FR} {J : FJ} {Q : Po} (hRM : ∀ k, R 69 k = refM k) {K : CO} {f : DV → Int32} {D : DV} (hK : CoastM I K) (hW : WK K) (hN : ∀ k, k < 51 → I 88 k = D k) (hL : LawM I f) (hfR : fR f) {bk : Nat → Option Nat} (hBm : ∀ k, k < 24 → I 93 k = oI (bk k)) (hBv : ∀ k v, bk k = some v → k < 24 ∧ v ≤ 99) {m : Nat} (hm : m < cM K) (hq : ∀ I', Fr8 I I' → (∀ h, h < cH K → ∀ g, g < cG K → PrM I' K f D bk m h g) → Q (.inl none) 103 I' R J) : Cc G mX11_findPairs (d + 10) 0 0 [rf G 69, .int (nI m)] 103 I R J Q := by
  have h8 := hW.1
  have hg6 := hW.2.1
  have h6 := hW.2.2.1
  have L : ∀ h, h ≤ cH K → ∀ I1, Fr8 I I1 → (∀ h2, h2 < h → ∀ g, g < cG K → PrM I1 K f D bk m h2 g) → V G mX11_findPairs (d + 10) 0 0 0 0 2 [(2, .int (nI h)), (0, rf G 69), (1, .int (nI m))] [] 103 I1 R J Q := by
    refine loopd (cH K) (fun I1 hF1 hP1 => ?_) (fun h hh ih I1 hF1 hP1 => ?_)
    · refine V_iload_n 3 0 rfl rfl dX11_findPairs_2 rfl ?_
      refine V_aload_n 4 1 rfl _ rfl rfl dX11_findPairs_3 rfl ?_
      refine V_getI 7 69 11 21 (nI (cH K)) (Fr8.K hF1 hK).1 flX11_175 rfl rfl rfl (by decide) dX11_findPairs_4 rfl ?_
      refine V_icmp_ge 137 10 rfl dX11_findPairs_7 rfl (fun c7 => ?_) (fun c7 => absurd (Int32.le_refl _) c7)
      refine V_ret_v rfl (Nat.le_of_ble_eq_true rfl) (fun h => absurd h (by decide)) (Nat.le_of_ble_eq_true rfl) (hq I1 hF1 hP1) dX11_findPairs_137
    · have L2 : ∀ g, g ≤ cG K → ∀ I2, Fr8 I I2 → (∀ h2, h2 < h → ∀ g, g < cG K → PrM I2 K f D bk m h2 g) → (∀ g2, g2 < g → PrM I2 K f D bk m h g2) → V G mX11_findPairs (d + 10) 0 0 0 0 12 [(3, .int (nI g)), (2, .int (nI h)), (0, rf G 69), (1, .int (nI m))] [] 103 I2 R J Q := by
        refine loopd (cG K) (fun I2 hF2 hP2 hR2 => ?_) (fun g hg ih2 I2 hF2 hP2 hR2 => ?_)
        · refine V_iload_n 13 0 rfl rfl dX11_findPairs_12 rfl ?_
          refine V_aload_n 14 2 rfl _ rfl rfl dX11_findPairs_13 rfl ?_
          refine V_getI 17 69 11 22 (nI (cG K)) (Fr8.K hF2 hK).2.1 flX11_178 rfl rfl rfl (by decide) dX11_findPairs_14 rfl ?_
          refine V_icmp_ge 131 20 rfl dX11_findPairs_17 rfl (fun c17 => ?_) (fun c17 => absurd (Int32.le_refl _) c17)
          refine V_iinc 134 1 rfl (nI (h + 1)) [(2, .int (nI (h + 1))), (3, .int (nI (cG K))), (0, rf G 69), (1, .int (nI m))] (nI_1 _) (by decide) rfl dX11_findPairs_131 rfl ?_
          refine V_goto 2 rfl dX11_findPairs_134 ?_
          refine V_lv [0, 2, 3] rfl (ih I2 hF2 (fun h2 q1 g q2 => ?_))
          by_cases e : h2 = h
          · subst e; exact hR2 g q2
          · exact hP2 h2 (by omega) g q2
        · have L3 : ∀ k, k ≤ 24 → ∀ I3, Fr8 I I3 → (∀ j, j < 24 → I3 94 j = alS K f D m h g j) → I3 99 = I2 99 → (∀ j, ¬ (24 * (6 * h + g) ≤ j ∧ j < 24 * (6 * h + g) + 24) → I3 98 j = I2 98 j) → (∀ j, j < k → I3 98 (24 * (6 * h + g) + j) = alS K f D m h g j) → ∀ iv, iv = (if fiB (alS K f D m h g) bk k = true then (1 : Int32) else 0) → V G mX11_findPairs (d + 10) 0 0 0 0 35 [(5, .int (nI k)), (4, .int iv), (3, .int (nI g)), (2, .int (nI h)), (0, rf G 69), (1, .int (nI m))] [] 103 I3 R J Q := by
            refine loopd 24 (fun I3 hF3 hA3 h99 hO3 hN3 iv eiv => ?_) (fun k hk ih3 I3 hF3 hA3 h99 hO3 hN3 iv eiv => ?_)
            · have keep : ∀ v, v = (if fiB (alS K f D m h g) bk 24 = true then (1 : Int32) else 0) → V G mX11_findPairs (d + 10) 0 0 0 0 12 [(3, .int (nI (g + 1))), (2, .int (nI h)), (0, rf G 69), (1, .int (nI m))] [] 103 (up2 I3 99 (6 * h + g) v) R J Q := by
                intro v ev
                have pm : ∀ h2 g2, g2 < cG K → ¬ (h2 = h ∧ g2 = g) → PrM I2 K f D bk m h2 g2 → PrM (up2 I3 99 (6 * h + g) v) K f D bk m h2 g2 := by
                  intro h2 g2 q2 qn p
                  refine ⟨fun k hk => ?_, ?_⟩
                  · rw [up2_n _ _ _ (by decide), hO3 _ (by omega)]; exact p.1 k hk
                  · rw [up2_s, upd_n (by omega), h99]; exact p.2
                refine ih2 _ (hF3.u (by decide)) (fun h2 q1 g2 q2 => pm h2 g2 q2 (by omega) (hP2 h2 q1 g2 q2)) (fun g2 q => ?_)
                by_cases e : g2 = g
                · subst e
                  exact ⟨fun k hk => by rw [up2_n _ _ _ (by decide)]; exact hN3 k hk, by rw [up2_s, upd_s, ev]⟩
                · exact pm h g2 (by omega) (by omega) (hR2 g2 (by omega))
              cases er : fiB (alS K f D m h g) bk 24 with
              | false =>
                rw [er] at eiv keep
                replace eiv : iv = 0 := eiv
                subst eiv
                refine V_iload 37 0 rfl dX11_findPairs_35 rfl ?_
                refine V_bipush 39 (24) rfl dX11_findPairs_37 rfl ?_
                refine V_icmp_ge 112 42 rfl dX11_findPairs_39 rfl (fun c39 => ?_) (fun c39 => absurd (Int32.le_refl _) c39)
                refine V_aload_n 113 4 rfl _ rfl rfl dX11_findPairs_112 rfl ?_
                refine V_getR 116 69 11 52 99 (hRM 52) flX11_104 rfl rfl rfl (by decide) dX11_findPairs_113 rfl ?_
                refine V_bipush 118 (6) rfl dX11_findPairs_116 rfl ?_
                refine V_iload_n 119 3 rfl rfl dX11_findPairs_118 rfl ?_
                refine V_imul 120 dX11_findPairs_119 rfl ?_
                refine V_rw (pk_mul 6 h) ?_
                refine V_iload_n 121 2 rfl rfl dX11_findPairs_120 rfl ?_
                refine V_iadd 122 dX11_findPairs_121 rfl ?_
                refine V_rw (nI_add (6 * h) g) ?_
                refine V_iload 124 1 rfl dX11_findPairs_122 rfl ?_
                refine V_zastN 125 99 48 ((6 * h) + g) (by omega) (by decide) rfl (by decide) dX11_findPairs_124 rfl ?_
                refine V_iinc 128 2 rfl (nI (g + 1)) [(3, .int (nI (g + 1))), (5, .int (nI 24)), (4, .int 0), (2, .int (nI h)), (0, rf G 69), (1, .int (nI m))] (nI_1 _) (by decide) rfl dX11_findPairs_125 rfl ?_
                refine V_goto 12 rfl dX11_findPairs_128 ?_
                exact V_lv [0, 3, 4, 5] rfl (keep _ (by decide))
              | true =>
                rw [er] at eiv keep
                replace eiv : iv = 1 := eiv
                subst eiv
                refine V_iload 37 0 rfl dX11_findPairs_35 rfl ?_
                refine V_bipush 39 (24) rfl dX11_findPairs_37 rfl ?_
                refine V_icmp_ge 112 42 rfl dX11_findPairs_39 rfl (fun c39 => ?_) (fun c39 => absurd (Int32.le_refl _) c39)
                refine V_aload_n 113 4 rfl _ rfl rfl dX11_findPairs_112 rfl ?_
                refine V_getR 116 69 11 52 99 (hRM 52) flX11_104 rfl rfl rfl (by decide) dX11_findPairs_113 rfl ?_
                refine V_bipush 118 (6) rfl dX11_findPairs_116 rfl ?_
                refine V_iload_n 119 3 rfl rfl dX11_findPairs_118 rfl ?_
                refine V_imul 120 dX11_findPairs_119 rfl ?_
                refine V_rw (pk_mul 6 h) ?_
                refine V_iload_n 121 2 rfl rfl dX11_findPairs_120 rfl ?_
                refine V_iadd 122 dX11_findPairs_121 rfl ?_
                refine V_rw (nI_add (6 * h) g) ?_
                refine V_iload 124 1 rfl dX11_findPairs_122 rfl ?_
                refine V_zastN 125 99 48 ((6 * h) + g) (by omega) (by decide) rfl (by decide) dX11_findPairs_124 rfl ?_
                refine V_iinc 128 2 rfl (nI (g + 1)) [(3, .int (nI (g + 1))), (5, .int (nI 24)), (4, .int 1), (2, .int (nI h)), (0, rf G 69), (1, .int (nI m))] (nI_1 _) (by decide) rfl dX11_findPairs_125 rfl ?_
                refine V_goto 12 rfl dX11_findPairs_128 ?_
                exact V_lv [0, 3, 4, 5] rfl (keep _ (by decide))
            · have hb3 := (Fr8.B hF3 hBm) k hk
              have es : fiB (alS K f D m h g) bk (k + 1) = (fiB (alS K f D m h g) bk k && (match bk k with | none => true | some v => decide (alS K f D m h g k = nI v))) := rfl
              have step : ∀ iv', iv' = (if fiB (alS K f D m h g) bk (k + 1) = true then (1 : Int32) else 0) → V G mX11_findPairs (d + 10) 0 0 0 0 35 [(5, .int (nI (k + 1))), (4, .int iv'), (3, .int (nI g)), (2, .int (nI h)), (0, rf G 69), (1, .int (nI m))] [] 103 (up2 I3 98 (24 * (6 * h + g) + k) (alS K f D m h g k)) R J Q := by
                intro iv2 e2
                refine ih3 _ (hF3.u (by decide)) (fun j hj => by rw [up2_n _ _ _ (by decide)]; exact hA3 j hj) (by rw [up2_n _ _ _ (by decide)]; exact h99) (fun j hj => by rw [up2_s, upd_n (by omega)]; exact hO3 j hj) (fun j hj => ?_) iv2 e2
                rw [up2_s]
                by_cases e : j = k
                · subst e; exact upd_s
                · rw [upd_n (by omega)]; exact hN3 j (by omega)
              cases e0 : fiB (alS K f D m h g) bk k with
              | false =>
                rw [e0] at eiv es
                replace eiv : iv = 0 := eiv
                subst eiv
                refine V_iload 37 0 rfl dX11_findPairs_35 rfl ?_
                refine V_bipush 39 (24) rfl dX11_findPairs_37 rfl ?_
                refine V_icmp_ge 112 42 rfl dX11_findPairs_39 rfl (fun c39 => absurd c39 (nI_ge hk (by decide))) (fun c39 => ?_)
                refine V_aload_n 43 4 rfl _ rfl rfl dX11_findPairs_42 rfl ?_
                refine V_getR 46 69 11 51 98 (hRM 51) flX11_101 rfl rfl rfl (by decide) dX11_findPairs_43 rfl ?_
                refine V_bipush 48 (24) rfl dX11_findPairs_46 rfl ?_
                refine V_bipush 50 (6) rfl dX11_findPairs_48 rfl ?_
                refine V_iload_n 51 3 rfl rfl dX11_findPairs_50 rfl ?_
                refine V_imul 52 dX11_findPairs_51 rfl ?_
                refine V_rw (pk_mul 6 h) ?_
                refine V_iload_n 53 2 rfl rfl dX11_findPairs_52 rfl ?_
                refine V_iadd 54 dX11_findPairs_53 rfl ?_
                refine V_rw (nI_add (6 * h) g) ?_
                refine V_imul 55 dX11_findPairs_54 rfl ?_
                refine V_rw (pk_mul 24 ((6 * h) + g)) ?_
                refine V_iload 57 0 rfl dX11_findPairs_55 rfl ?_
                refine V_iadd 58 dX11_findPairs_57 rfl ?_
                refine V_rw (nI_add (24 * ((6 * h) + g)) k) ?_
                refine V_aload_n 59 4 rfl _ rfl rfl dX11_findPairs_58 rfl ?_
                refine V_getR 62 69 11 47 94 (hRM 47) flX11_89 rfl rfl rfl (by decide) dX11_findPairs_59 rfl ?_
                refine V_iload 64 0 rfl dX11_findPairs_62 rfl ?_
                refine V_ialdN 65 94 24 k (alS K f D m h g k) (hA3 k hk) (by omega) (by decide) rfl (by decide) dX11_findPairs_64 rfl ?_
                refine V_iastN 66 98 1152 ((24 * ((6 * h) + g)) + k) (by omega) (by decide) rfl (by decide) dX11_findPairs_65 rfl ?_
                refine V_iload 68 1 rfl dX11_findPairs_66 rfl ?_
                refine V_if_eq 103 71 rfl dX11_findPairs_68 rfl (fun c68 => ?_) (fun c68 => absurd c68 (by decide))
                refine V_iconst 104 (0) rfl dX11_findPairs_103 rfl ?_
                refine V_istore 106 [(4, .int 0), (5, .int (nI k)), (3, .int (nI g)), (2, .int (nI h)), (0, rf G 69), (1, .int (nI m))] (by decide) rfl dX11_findPairs_104 rfl ?_
                refine V_iinc 109 1 rfl (nI (k + 1)) [(5, .int (nI (k + 1))), (4, .int 0), (3, .int (nI g)), (2, .int (nI h)), (0, rf G 69), (1, .int (nI m))] (nI_1 _) (by decide) rfl dX11_findPairs_106 rfl ?_
                refine V_goto 35 rfl dX11_findPairs_109 ?_
                exact V_lv [0, 1, 2, 3, 4, 5] rfl (step _ (by rw [es, Bool.false_and]; rfl))
              | true =>
                rw [e0] at eiv es
                replace eiv : iv = 1 := eiv
                subst eiv
                cases eb : bk k with
                | none =>
                  rw [eb] at es hb3
                  replace es : fiB (alS K f D m h g) bk (k + 1) = true := es
                  refine V_iload 37 0 rfl dX11_findPairs_35 rfl ?_
                  refine V_bipush 39 (24) rfl dX11_findPairs_37 rfl ?_
                  refine V_icmp_ge 112 42 rfl dX11_findPairs_39 rfl (fun c39 => absurd c39 (nI_ge hk (by decide))) (fun c39 => ?_)
                  refine V_aload_n 43 4 rfl _ rfl rfl dX11_findPairs_42 rfl ?_
                  refine V_getR 46 69 11 51 98 (hRM 51) flX11_101 rfl rfl rfl (by decide) dX11_findPairs_43 rfl ?_
                  refine V_bipush 48 (24) rfl dX11_findPairs_46 rfl ?_
                  refine V_bipush 50 (6) rfl dX11_findPairs_48 rfl ?_
                  refine V_iload_n 51 3 rfl rfl dX11_findPairs_50 rfl ?_
                  refine V_imul 52 dX11_findPairs_51 rfl ?_
                  refine V_rw (pk_mul 6 h) ?_
                  refine V_iload_n 53 2 rfl rfl dX11_findPairs_52 rfl ?_
                  refine V_iadd 54 dX11_findPairs_53 rfl ?_
                  refine V_rw (nI_add (6 * h) g) ?_
                  refine V_imul 55 dX11_findPairs_54 rfl ?_
                  refine V_rw (pk_mul 24 ((6 * h) + g)) ?_
                  refine V_iload 57 0 rfl dX11_findPairs_55 rfl ?_
                  refine V_iadd 58 dX11_findPairs_57 rfl ?_
                  refine V_rw (nI_add (24 * ((6 * h) + g)) k) ?_
                  refine V_aload_n 59 4 rfl _ rfl rfl dX11_findPairs_58 rfl ?_
                  refine V_getR 62 69 11 47 94 (hRM 47) flX11_89 rfl rfl rfl (by decide) dX11_findPairs_59 rfl ?_
                  refine V_iload 64 0 rfl dX11_findPairs_62 rfl ?_
                  refine V_ialdN 65 94 24 k (alS K f D m h g k) (hA3 k hk) (by omega) (by decide) rfl (by decide) dX11_findPairs_64 rfl ?_
                  refine V_iastN 66 98 1152 ((24 * ((6 * h) + g)) + k) (by omega) (by decide) rfl (by decide) dX11_findPairs_65 rfl ?_
                  refine V_iload 68 1 rfl dX11_findPairs_66 rfl ?_
                  refine V_if_eq 103 71 rfl dX11_findPairs_68 rfl (fun c68 => absurd c68 (by decide)) (fun c68 => ?_)
                  refine V_aload_n 72 4 rfl _ rfl rfl dX11_findPairs_71 rfl ?_
                  refine V_getR 75 69 11 45 93 (hRM 45) flX11_86 rfl rfl rfl (by decide) dX11_findPairs_72 rfl ?_
                  refine V_iload 77 0 rfl dX11_findPairs_75 rfl ?_
                  refine V_ialdN 78 93 24 k (-1) ((congrFun (up2_n _ _ _ (by decide)) _).trans hb3) (by omega) (by decide) rfl (by decide) dX11_findPairs_77 rfl ?_
                  refine V_iconst 79 (-1) rfl dX11_findPairs_78 rfl ?_
                  refine V_icmp_eq 99 82 rfl dX11_findPairs_79 rfl (fun c79 => ?_) (fun c79 => absurd rfl c79)
                  refine V_iconst 100 (1) rfl dX11_findPairs_99 rfl ?_
                  refine V_goto 104 rfl dX11_findPairs_100 ?_
                  refine V_istore 106 [(4, .int 1), (5, .int (nI k)), (3, .int (nI g)), (2, .int (nI h)), (0, rf G 69), (1, .int (nI m))] (by decide) rfl dX11_findPairs_104 rfl ?_
                  refine V_iinc 109 1 rfl (nI (k + 1)) [(5, .int (nI (k + 1))), (4, .int 1), (3, .int (nI g)), (2, .int (nI h)), (0, rf G 69), (1, .int (nI m))] (nI_1 _) (by decide) rfl dX11_findPairs_106 rfl ?_
                  refine V_goto 35 rfl dX11_findPairs_109 ?_
                  exact V_lv [0, 1, 2, 3, 4, 5] rfl (step _ (by rw [es]; rfl))
                | some v =>
                  rw [eb] at es hb3
                  have v99 := (hBv k v eb).2
                  replace es : fiB (alS K f D m h g) bk (k + 1) = decide (alS K f D m h g k = nI v) := es
                  refine V_iload 37 0 rfl dX11_findPairs_35 rfl ?_
                  refine V_bipush 39 (24) rfl dX11_findPairs_37 rfl ?_
                  refine V_icmp_ge 112 42 rfl dX11_findPairs_39 rfl (fun c39 => absurd c39 (nI_ge hk (by decide))) (fun c39 => ?_)
                  refine V_aload_n 43 4 rfl _ rfl rfl dX11_findPairs_42 rfl ?_
                  refine V_getR 46 69 11 51 98 (hRM 51) flX11_101 rfl rfl rfl (by decide) dX11_findPairs_43 rfl ?_
                  refine V_bipush 48 (24) rfl dX11_findPairs_46 rfl ?_
                  refine V_bipush 50 (6) rfl dX11_findPairs_48 rfl ?_
                  refine V_iload_n 51 3 rfl rfl dX11_findPairs_50 rfl ?_
                  refine V_imul 52 dX11_findPairs_51 rfl ?_
                  refine V_rw (pk_mul 6 h) ?_
                  refine V_iload_n 53 2 rfl rfl dX11_findPairs_52 rfl ?_
                  refine V_iadd 54 dX11_findPairs_53 rfl ?_
                  refine V_rw (nI_add (6 * h) g) ?_
                  refine V_imul 55 dX11_findPairs_54 rfl ?_
                  refine V_rw (pk_mul 24 ((6 * h) + g)) ?_
                  refine V_iload 57 0 rfl dX11_findPairs_55 rfl ?_
                  refine V_iadd 58 dX11_findPairs_57 rfl ?_
                  refine V_rw (nI_add (24 * ((6 * h) + g)) k) ?_
                  refine V_aload_n 59 4 rfl _ rfl rfl dX11_findPairs_58 rfl ?_
                  refine V_getR 62 69 11 47 94 (hRM 47) flX11_89 rfl rfl rfl (by decide) dX11_findPairs_59 rfl ?_
                  refine V_iload 64 0 rfl dX11_findPairs_62 rfl ?_
                  refine V_ialdN 65 94 24 k (alS K f D m h g k) (hA3 k hk) (by omega) (by decide) rfl (by decide) dX11_findPairs_64 rfl ?_
                  refine V_iastN 66 98 1152 ((24 * ((6 * h) + g)) + k) (by omega) (by decide) rfl (by decide) dX11_findPairs_65 rfl ?_
                  refine V_iload 68 1 rfl dX11_findPairs_66 rfl ?_
                  refine V_if_eq 103 71 rfl dX11_findPairs_68 rfl (fun c68 => absurd c68 (by decide)) (fun c68 => ?_)
                  refine V_aload_n 72 4 rfl _ rfl rfl dX11_findPairs_71 rfl ?_
                  refine V_getR 75 69 11 45 93 (hRM 45) flX11_86 rfl rfl rfl (by decide) dX11_findPairs_72 rfl ?_
                  refine V_iload 77 0 rfl dX11_findPairs_75 rfl ?_
                  refine V_ialdN 78 93 24 k (nI v) ((congrFun (up2_n _ _ _ (by decide)) _).trans hb3) (by omega) (by decide) rfl (by decide) dX11_findPairs_77 rfl ?_
                  refine V_iconst 79 (-1) rfl dX11_findPairs_78 rfl ?_
                  refine V_icmp_eq 99 82 rfl dX11_findPairs_79 rfl (fun c79 => absurd c79 (nI_ne (by omega))) (fun c79 => ?_)
                  refine V_aload_n 83 4 rfl _ rfl rfl dX11_findPairs_82 rfl ?_
                  refine V_getR 86 69 11 45 93 (hRM 45) flX11_86 rfl rfl rfl (by decide) dX11_findPairs_83 rfl ?_
                  refine V_iload 88 0 rfl dX11_findPairs_86 rfl ?_
                  refine V_ialdN 89 93 24 k (nI v) ((congrFun (up2_n _ _ _ (by decide)) _).trans hb3) (by omega) (by decide) rfl (by decide) dX11_findPairs_88 rfl ?_
                  refine V_aload_n 90 4 rfl _ rfl rfl dX11_findPairs_89 rfl ?_
                  refine V_getR 93 69 11 47 94 (hRM 47) flX11_89 rfl rfl rfl (by decide) dX11_findPairs_90 rfl ?_
                  refine V_iload 95 0 rfl dX11_findPairs_93 rfl ?_
                  refine V_ialdN 96 94 24 k (alS K f D m h g k) ((congrFun (up2_n _ _ _ (by decide)) _).trans (hA3 k hk)) (by omega) (by decide) rfl (by decide) dX11_findPairs_95 rfl ?_
                  refine V_icmp_ne 103 99 rfl dX11_findPairs_96 rfl (fun c96 => ?_) (fun c96 => ?_)
                  · refine V_iconst 104 (0) rfl dX11_findPairs_103 rfl ?_
                    refine V_istore 106 [(4, .int 0), (5, .int (nI k)), (3, .int (nI g)), (2, .int (nI h)), (0, rf G 69), (1, .int (nI m))] (by decide) rfl dX11_findPairs_104 rfl ?_
                    refine V_iinc 109 1 rfl (nI (k + 1)) [(5, .int (nI (k + 1))), (4, .int 0), (3, .int (nI g)), (2, .int (nI h)), (0, rf G 69), (1, .int (nI m))] (nI_1 _) (by decide) rfl dX11_findPairs_106 rfl ?_
                    refine V_goto 35 rfl dX11_findPairs_109 ?_
                    exact V_lv [0, 1, 2, 3, 4, 5] rfl (step _ (by rw [es]; first | (rw [decide_eq_true c96.symm]; rfl) | (rw [decide_eq_false (fun e => c96 e.symm)]; rfl)))
                  · refine V_iconst 100 (1) rfl dX11_findPairs_99 rfl ?_
                    refine V_goto 104 rfl dX11_findPairs_100 ?_
                    refine V_istore 106 [(4, .int 1), (5, .int (nI k)), (3, .int (nI g)), (2, .int (nI h)), (0, rf G 69), (1, .int (nI m))] (by decide) rfl dX11_findPairs_104 rfl ?_
                    refine V_iinc 109 1 rfl (nI (k + 1)) [(5, .int (nI (k + 1))), (4, .int 1), (3, .int (nI g)), (2, .int (nI h)), (0, rf G 69), (1, .int (nI m))] (nI_1 _) (by decide) rfl dX11_findPairs_106 rfl ?_
                    refine V_goto 35 rfl dX11_findPairs_109 ?_
                    exact V_lv [0, 1, 2, 3, 4, 5] rfl (step _ (by rw [es]; first | (rw [decide_eq_true c96.symm]; rfl) | (rw [decide_eq_false (fun e => c96 e.symm)]; rfl)))
          refine V_iload_n 13 0 rfl rfl dX11_findPairs_12 rfl ?_
          refine V_aload_n 14 2 rfl _ rfl rfl dX11_findPairs_13 rfl ?_
          refine V_getI 17 69 11 22 (nI (cG K)) (Fr8.K hF2 hK).2.1 flX11_178 rfl rfl rfl (by decide) dX11_findPairs_14 rfl ?_
          refine V_icmp_ge 131 20 rfl dX11_findPairs_17 rfl (fun c17 => absurd c17 (nI_ge hg (by omega))) (fun c17 => ?_)
          refine V_aload_n 21 2 rfl _ rfl rfl dX11_findPairs_20 rfl ?_
          refine V_iload_n 22 3 rfl rfl dX11_findPairs_21 rfl ?_
          refine V_iload_n 23 1 rfl rfl dX11_findPairs_22 rfl ?_
          refine V_iload_n 24 0 rfl rfl dX11_findPairs_23 rfl ?_
          refine V_bipush 26 (24) rfl dX11_findPairs_24 rfl ?_
          refine V_callV (K' := 0) (S' := 0) 29 69 11 4 [.int (nI m), .int (nI h), .int (nI g), .int 24] mkX11_layAlone lkX11_407 (by decide) rfl rfl (by decide) rfl (Nat.le_of_ble_eq_true rfl) (Nat.le_of_ble_eq_true rfl) (Nat.le_of_ble_eq_true rfl) (Nat.le_of_ble_eq_true rfl) rfl rfl dX11_findPairs_26 rfl (c_X11_layAlone (n := 24) hRM (Fr8.K hF2 hK) hW (Fr8.N hF2 hN) (Fr8.L hF2 hL) hm hh hg (Nat.le_refl _) (fun I3 hF3 hA3 => ?_))
          refine Kq_v (k' := 0) (sl' := 0) rfl rfl ?_
          refine V_iconst 30 (1) rfl dX11_findPairs_29 rfl ?_
          refine V_istore 32 [(4, .int 1), (3, .int (nI g)), (2, .int (nI h)), (0, rf G 69), (1, .int (nI m))] (by decide) rfl dX11_findPairs_30 rfl ?_
          refine V_iconst 33 (0) rfl dX11_findPairs_32 rfl ?_
          refine V_istore 35 [(5, .int 0), (4, .int 1), (3, .int (nI g)), (2, .int (nI h)), (0, rf G 69), (1, .int (nI m))] (by decide) rfl dX11_findPairs_33 rfl ?_
          exact V_lv [0, 1, 2, 3, 4, 5] rfl (L3 0 (Nat.zero_le _) I3 (Fr8.tr hF2 (Fr8.f4 hF3)) hA3 (hF3 99 (by decide) (by decide) (by decide)) (fun j _ => by rw [hF3 98 (by decide) (by decide) (by decide)]) (fun j q => absurd q (Nat.not_lt_zero _)) 1 rfl)
      refine V_iload_n 3 0 rfl rfl dX11_findPairs_2 rfl ?_
      refine V_aload_n 4 1 rfl _ rfl rfl dX11_findPairs_3 rfl ?_
      refine V_getI 7 69 11 21 (nI (cH K)) (Fr8.K hF1 hK).1 flX11_175 rfl rfl rfl (by decide) dX11_findPairs_4 rfl ?_
      refine V_icmp_ge 137 10 rfl dX11_findPairs_7 rfl (fun c7 => absurd c7 (nI_ge hh (by omega))) (fun c7 => ?_)
      refine V_iconst 11 (0) rfl dX11_findPairs_10 rfl ?_
      refine V_istore_n 12 [(3, .int 0), (2, .int (nI h)), (0, rf G 69), (1, .int (nI m))] (by decide) rfl rfl dX11_findPairs_11 rfl ?_
      exact V_lv [0, 1, 2, 3] rfl (L2 0 (Nat.zero_le _) I1 hF1 hP1 (fun g q => absurd q (Nat.not_lt_zero _)))
  show V _ _ _ _ _ _ _ _ [(0, rf G 69), (1, .int (nI m))] [] _ _ _ _ _
  refine V_iconst 1 (0) rfl dX11_findPairs_0 rfl ?_
  refine V_istore_n 2 [(2, .int 0), (0, rf G 69), (1, .int (nI m))] (by decide) rfl rfl dX11_findPairs_1 rfl ?_
  exact V_lv [0, 1, 2] rfl (L 0 (Nat.zero_le _) I Fr8.rf (fun h q => absurd q (Nat.not_lt_zero _)))
set_option maxHeartbeats 8000000 in
theorem c_X11_fits {G : Gx} {d : Nat} {I : FI} {R : FR} {J : FJ} {Q : Po} {K : CO} {f : DV → Int32} {D : DV} (hX : RM I R K f D) {x y : Int32} {nb : Nat} {bk : Nat → Option Nat} (hBm : BookM I nb bk) (hBv : ∀ k v, bk k = some v → k < 24 ∧ v ≤ 99) (hq : HoM I R J Q 2 (ckN x (cM K) (ckW y 0 1 (.inl (if y = 0 then nI (cnT K f D bk x.toNatClampNeg (cH K * cG K)) else fsT K f D bk x.toNatClampNeg (cH K * cG K)))))) : Cc G mX11_fits (d + 60) 0 0 [rf G 69, .int x, .int y] 103 I R J Q := by
  obtain ⟨I0, hI0⟩ : ∃ I0, I0 = up2 I 69 0 0 := ⟨_, rfl⟩
  have hz := FrM.z hI0
  obtain ⟨hRM, hK, hW, hN, hI, hL, hfR⟩ := hX.fr hz
  have ht : I0 69 0 = 0 := hz.2.1
  have h8 := hW.1
  have hg6 := hW.2.1
  have h6 := hW.2.2.1
  have hWD := hI.1
  have hFl := hI.1.1
  have hB := hI.2.2.1
  have hSt := hI.2.1
  show V _ _ _ _ _ _ _ _ [(0, rf G 69), (1, .int x), (2, .int y)] [] _ _ _ _ _
  refine V_aload_n 1 0 rfl _ rfl rfl dX11_fits_0 rfl ?_
  refine V_iconst 2 (0) rfl dX11_fits_1 rfl ?_
  refine V_putI 5 69 11 0 flX11_3 rfl rfl rfl (by decide) rfl dX11_fits_2 rfl ?_
  rw [← hI0]
  refine V_aload_n 6 0 rfl _ rfl rfl dX11_fits_5 rfl ?_
  refine V_iload_n 7 1 rfl rfl dX11_fits_6 rfl ?_
  refine V_iconst 8 (1) rfl dX11_fits_7 rfl ?_
  refine V_callV (K' := 0) (S' := 0) 11 69 11 2 [.int x, .int 1] mkX11_isMan lkX11_404 (by decide) rfl rfl (by decide) rfl (Nat.le_of_ble_eq_true rfl) (Nat.le_of_ble_eq_true rfl) (Nat.le_of_ble_eq_true rfl) (Nat.le_of_ble_eq_true rfl) rfl rfl dX11_fits_8 rfl (c_X11_isMan (c := cM K) (cd := 1) hRM (by omega) hK.2.2.1 (by decide) (by decide) ht (fun i8 => ?_) (fun i8 => ?_))
  · refine Kq_i (k' := 0) (sl' := 0) rfl rfl ?_
    rw [ckN_y (by omega) i8] at hq
    obtain ⟨m, hm, rfl⟩ := i8
    refine V_if_eq 29 14 rfl dX11_fits_11 rfl (fun c11 => absurd c11 (by decide)) (fun c11 => ?_)
    refine V_aload_n 15 0 rfl _ rfl rfl dX11_fits_14 rfl ?_
    refine V_iload_n 16 2 rfl rfl dX11_fits_15 rfl ?_
    refine V_iconst 17 (0) rfl dX11_fits_16 rfl ?_
    refine V_iconst 18 (1) rfl dX11_fits_17 rfl ?_
    refine V_callS (K' := 0) (S' := 0) 21 3 [.int y, .int 0, .int 1] mkX11_within lkX11_383 rfl (Nat.le_of_ble_eq_true rfl) (Nat.le_of_ble_eq_true rfl) (Nat.le_of_ble_eq_true rfl) (Nat.le_of_ble_eq_true rfl) rfl rfl dX11_fits_18 rfl (c_X11_within (fun a18 b18 => ?_) (fun a18 => ?_))
    · refine Kq_i (k' := 0) (sl' := 0) rfl rfl ?_
      rw [ckW_y a18 b18] at hq
      refine V_iconst 22 (2) rfl dX11_fits_21 rfl ?_
      refine V_iconst 23 (1) rfl dX11_fits_22 rfl ?_
      refine V_callV (K' := 0) (S' := 0) 26 69 11 3 [.int 1, .int 2, .int 1] mkX11_may lkX11_216 (by decide) rfl rfl (by decide) rfl (Nat.le_of_ble_eq_true rfl) (Nat.le_of_ble_eq_true rfl) (Nat.le_of_ble_eq_true rfl) (Nat.le_of_ble_eq_true rfl) rfl rfl dX11_fits_23 rfl (c_X11_may (cd := 2) (kd := 1) hRM (by decide) (by decide) (by decide) ht (fun _ => ?_) (fun e => absurd e (by decide)))
      refine Kq_i (k' := 0) (sl' := 0) rfl rfl ?_
      refine V_if_ne 31 29 rfl dX11_fits_26 rfl (fun c26 => ?_) (fun c26 => absurd c26 (by decide))
      refine V_aload_n 32 0 rfl _ rfl rfl dX11_fits_31 rfl ?_
      refine V_iload_n 33 1 rfl rfl dX11_fits_32 rfl ?_
      refine V_callV (K' := 0) (S' := 0) 36 69 11 1 [.int (nI m)] mkX11_findPairs lkX11_428 (by decide) rfl rfl (by decide) rfl (Nat.le_of_ble_eq_true rfl) (Nat.le_of_ble_eq_true rfl) (Nat.le_of_ble_eq_true rfl) (Nat.le_of_ble_eq_true rfl) rfl rfl dX11_fits_33 rfl (c_X11_findPairs hRM hK hW hN hL hfR (fun k hk => by rw [hz.1 93 (by decide) (by decide) (by decide) (by decide) (by decide) (by decide)]; exact hBm.2 k hk) hBv hm (fun I1 hF1 hP1 => ?_))
      refine Kq_v (k' := 0) (sl' := 0) rfl rfl ?_
      rw [nI_clamp (show m < 2 ^ 31 by omega)] at hq
      refine V_iconst 37 (0) rfl dX11_fits_36 rfl ?_
      refine V_istore_n 38 [(3, .int 0), (0, rf G 69), (1, .int (nI m)), (2, .int y)] (by decide) rfl rfl dX11_fits_37 rfl ?_
      refine V_iconst 39 (-1) rfl dX11_fits_38 rfl ?_
      refine V_istore 41 [(4, .int (-1)), (3, .int 0), (0, rf G 69), (1, .int (nI m)), (2, .int y)] (by decide) rfl dX11_fits_39 rfl ?_
      refine V_iconst 42 (0) rfl dX11_fits_41 rfl ?_
      refine V_istore 44 [(5, .int 0), (4, .int (-1)), (3, .int 0), (0, rf G 69), (1, .int (nI m)), (2, .int y)] (by decide) rfl dX11_fits_42 rfl ?_
      have L : ∀ h, h ≤ cH K → V G mX11_fits (d + 60) 0 0 0 0 44 [(5, .int (nI h)), (3, .int (nI (cnT K f D bk m (h * cG K)))), (4, .int (fsT K f D bk m (h * cG K))), (0, rf G 69), (1, .int (nI m)), (2, .int y)] [] 103 I1 R J Q := by
        refine loopd (cH K) ?_ (fun h hh ih => ?_)
        · refine V_iload 46 0 rfl dX11_fits_44 rfl ?_
          refine V_aload_n 47 3 rfl _ rfl rfl dX11_fits_46 rfl ?_
          refine V_getI 50 69 11 21 (nI (cH K)) (Fr8.K hF1 hK).1 flX11_175 rfl rfl rfl (by decide) dX11_fits_47 rfl ?_
          refine V_icmp_ge 120 53 rfl dX11_fits_50 rfl (fun c50 => ?_) (fun c50 => absurd (Int32.le_refl _) c50)
          refine V_iload_n 121 5 rfl rfl dX11_fits_120 rfl ?_
          refine V_if_ne 128 124 rfl dX11_fits_121 rfl (fun c121 => ?_) (fun c121 => ?_)
          · refine V_iload 130 2 rfl dX11_fits_128 rfl ?_
            refine V_ret_i rfl rfl (Nat.le_of_ble_eq_true rfl) (fun h => absurd h (by decide)) (Nat.le_of_ble_eq_true rfl) (by rw [if_neg c121] at hq; exact hq I1 (hz.go8 hF1)) dX11_fits_130
          · refine V_iload_n 125 1 rfl rfl dX11_fits_124 rfl ?_
            refine V_goto 130 rfl dX11_fits_125 ?_
            refine V_ret_i rfl rfl (Nat.le_of_ble_eq_true rfl) (fun h => absurd h (by decide)) (Nat.le_of_ble_eq_true rfl) (by rw [if_pos c121] at hq; exact hq I1 (hz.go8 hF1)) dX11_fits_130
        · have L2 : ∀ g, g ≤ cG K → V G mX11_fits (d + 60) 0 0 0 0 56 [(6, .int (nI g)), (5, .int (nI h)), (3, .int (nI (cnT K f D bk m (h * cG K + g)))), (4, .int (fsT K f D bk m (h * cG K + g))), (0, rf G 69), (1, .int (nI m)), (2, .int y)] [] 103 I1 R J Q := by
            refine loopd (cG K) ?_ (fun g hg ih2 => ?_)
            · refine V_iload 58 0 rfl dX11_fits_56 rfl ?_
              refine V_aload_n 59 4 rfl _ rfl rfl dX11_fits_58 rfl ?_
              refine V_getI 62 69 11 22 (nI (cG K)) (Fr8.K hF1 hK).2.1 flX11_178 rfl rfl rfl (by decide) dX11_fits_59 rfl ?_
              refine V_icmp_ge 114 65 rfl dX11_fits_62 rfl (fun c62 => ?_) (fun c62 => absurd (Int32.le_refl _) c62)
              refine V_iinc 117 1 rfl (nI (h + 1)) [(5, .int (nI (h + 1))), (6, .int (nI (cG K))), (3, .int (nI (cnT K f D bk m (h * cG K + cG K)))), (4, .int (fsT K f D bk m (h * cG K + cG K))), (0, rf G 69), (1, .int (nI m)), (2, .int y)] (nI_1 _) (by decide) rfl dX11_fits_114 rfl ?_
              refine V_goto 44 rfl dX11_fits_117 ?_
              rw [Nat.succ_mul] at ih
              exact V_lv [0, 2, 3, 4, 5, 6] rfl ih
            · obtain ⟨t1, t2, t3⟩ := tlt hh hg h8 hg6
              obtain ⟨d1, d2⟩ := dvmd (h := h) hg
              have hp := (hP1 h hh g hg).2
              rw [← Nat.add_assoc] at ih2
              obtain ⟨t, et⟩ : ∃ t, t = h * cG K + g := ⟨_, rfl⟩
              rw [← et] at ih2 t1 d1 d2 ⊢
              have ct := cnT_le (K := K) (f := f) (D := D) (bk := bk) (m := m) t
              have e1 : cnT K f D bk m (t + 1) = cnT K f D bk m t + (if fitT K f D bk m t = true then 1 else 0) := rfl
              have hfs := fsT_n (f := f) (D := D) (bk := bk) (m := m) hg6 t (by omega)
              have eft : fitT K f D bk m t = fiB (alS K f D m h g) bk 24 := by unfold fitT; rw [d1, d2]
              rw [← eft] at hp
              cases ef : fitT K f D bk m t with
              | false =>
                rw [ef] at hp e1
                have e2 : fsT K f D bk m (t + 1) = fsT K f D bk m t := if_neg (fun q => by rw [ef] at q; exact absurd q.1 (by decide))
                replace e1 : cnT K f D bk m (t + 1) = cnT K f D bk m t := e1
                rw [e1, e2] at ih2
                refine V_iload 58 0 rfl dX11_fits_56 rfl ?_
                refine V_aload_n 59 4 rfl _ rfl rfl dX11_fits_58 rfl ?_
                refine V_getI 62 69 11 22 (nI (cG K)) (Fr8.K hF1 hK).2.1 flX11_178 rfl rfl rfl (by decide) dX11_fits_59 rfl ?_
                refine V_icmp_ge 114 65 rfl dX11_fits_62 rfl (fun c62 => absurd c62 (nI_ge hg (by omega))) (fun c62 => ?_)
                refine V_aload_n 66 4 rfl _ rfl rfl dX11_fits_65 rfl ?_
                refine V_getR 69 69 11 52 99 (hRM 52) flX11_104 rfl rfl rfl (by decide) dX11_fits_66 rfl ?_
                refine V_bipush 71 (6) rfl dX11_fits_69 rfl ?_
                refine V_iload 73 1 rfl dX11_fits_71 rfl ?_
                refine V_imul 74 dX11_fits_73 rfl ?_
                refine V_rw (pk_mul 6 h) ?_
                refine V_iload 76 0 rfl dX11_fits_74 rfl ?_
                refine V_iadd 77 dX11_fits_76 rfl ?_
                refine V_rw (nI_add (6 * h) g) ?_
                refine V_zaldN 78 99 48 ((6 * h) + g) 0 hp (by omega) (by decide) rfl (by decide) dX11_fits_77 rfl ?_
                refine V_if_ne 84 81 rfl dX11_fits_78 rfl (fun c78 => absurd c78 (by decide)) (fun c78 => ?_)
                refine V_goto 108 rfl dX11_fits_81 ?_
                refine V_iinc 111 0 rfl (nI (g + 1)) [(6, .int (nI (g + 1))), (5, .int (nI h)), (3, .int (nI (cnT K f D bk m t))), (4, .int (fsT K f D bk m t)), (0, rf G 69), (1, .int (nI m)), (2, .int y)] (nI_1 _) (by decide) rfl dX11_fits_108 rfl ?_
                refine V_goto 56 rfl dX11_fits_111 ?_
                exact V_lv [0, 1, 2, 3, 4, 5, 6] rfl ih2
              | true =>
                rw [ef] at hp e1
                replace e1 : cnT K f D bk m (t + 1) = cnT K f D bk m t + 1 := e1
                refine V_iload 58 0 rfl dX11_fits_56 rfl ?_
                refine V_aload_n 59 4 rfl _ rfl rfl dX11_fits_58 rfl ?_
                refine V_getI 62 69 11 22 (nI (cG K)) (Fr8.K hF1 hK).2.1 flX11_178 rfl rfl rfl (by decide) dX11_fits_59 rfl ?_
                refine V_icmp_ge 114 65 rfl dX11_fits_62 rfl (fun c62 => absurd c62 (nI_ge hg (by omega))) (fun c62 => ?_)
                refine V_aload_n 66 4 rfl _ rfl rfl dX11_fits_65 rfl ?_
                refine V_getR 69 69 11 52 99 (hRM 52) flX11_104 rfl rfl rfl (by decide) dX11_fits_66 rfl ?_
                refine V_bipush 71 (6) rfl dX11_fits_69 rfl ?_
                refine V_iload 73 1 rfl dX11_fits_71 rfl ?_
                refine V_imul 74 dX11_fits_73 rfl ?_
                refine V_rw (pk_mul 6 h) ?_
                refine V_iload 76 0 rfl dX11_fits_74 rfl ?_
                refine V_iadd 77 dX11_fits_76 rfl ?_
                refine V_rw (nI_add (6 * h) g) ?_
                refine V_zaldN 78 99 48 ((6 * h) + g) 1 hp (by omega) (by decide) rfl (by decide) dX11_fits_77 rfl ?_
                refine V_if_ne 84 81 rfl dX11_fits_78 rfl (fun c78 => ?_) (fun c78 => absurd c78 (by decide))
                refine V_iinc 87 2 rfl (nI (cnT K f D bk m t + 1)) [(3, .int (nI (cnT K f D bk m t + 1))), (6, .int (nI g)), (5, .int (nI h)), (4, .int (fsT K f D bk m t)), (0, rf G 69), (1, .int (nI m)), (2, .int y)] (nI_1 _) (by decide) rfl dX11_fits_84 rfl ?_
                refine V_iload 89 3 rfl dX11_fits_87 rfl ?_
                refine V_iconst 90 (-1) rfl dX11_fits_89 rfl ?_
                refine V_icmp_ne 104 93 rfl dX11_fits_90 rfl (fun c90 => ?_) (fun c90 => ?_)
                · refine V_iload 106 3 rfl dX11_fits_104 rfl ?_
                  refine V_istore 108 [(4, .int (fsT K f D bk m t)), (3, .int (nI (cnT K f D bk m t + 1))), (6, .int (nI g)), (5, .int (nI h)), (0, rf G 69), (1, .int (nI m)), (2, .int y)] (by decide) rfl dX11_fits_106 rfl ?_
                  refine V_iinc 111 2 rfl (nI (g + 1)) [(6, .int (nI (g + 1))), (4, .int (fsT K f D bk m t)), (3, .int (nI (cnT K f D bk m t + 1))), (5, .int (nI h)), (0, rf G 69), (1, .int (nI m)), (2, .int y)] (nI_1 _) (by decide) rfl dX11_fits_108 rfl ?_
                  refine V_goto 56 rfl dX11_fits_111 ?_
                  have e2 : fsT K f D bk m (t + 1) = fsT K f D bk m t := if_neg (fun q => c90 (hfs.mpr q.2))
                  rw [e1, e2] at ih2
                  exact V_lv [0, 3, 2, 1, 4, 5, 6] rfl ih2
                · refine V_bipush 95 (10) rfl dX11_fits_93 rfl ?_
                  refine V_iload 97 2 rfl dX11_fits_95 rfl ?_
                  refine V_imul 98 dX11_fits_97 rfl ?_
                  refine V_rw (pk_mul 10 h) ?_
                  refine V_iload 100 1 rfl dX11_fits_98 rfl ?_
                  refine V_iadd 101 dX11_fits_100 rfl ?_
                  refine V_rw (nI_add (10 * h) g) ?_
                  refine V_goto 106 rfl dX11_fits_101 ?_
                  refine V_istore 108 [(4, .int (nI ((10 * h) + g))), (3, .int (nI (cnT K f D bk m t + 1))), (6, .int (nI g)), (5, .int (nI h)), (0, rf G 69), (1, .int (nI m)), (2, .int y)] (by decide) rfl dX11_fits_106 rfl ?_
                  refine V_iinc 111 2 rfl (nI (g + 1)) [(6, .int (nI (g + 1))), (4, .int (nI ((10 * h) + g))), (3, .int (nI (cnT K f D bk m t + 1))), (5, .int (nI h)), (0, rf G 69), (1, .int (nI m)), (2, .int y)] (nI_1 _) (by decide) rfl dX11_fits_108 rfl ?_
                  refine V_goto 56 rfl dX11_fits_111 ?_
                  have e2 : fsT K f D bk m (t + 1) = nI (10 * h + g) := by rw [show fsT K f D bk m (t + 1) = nI (10 * (t / cG K) + t % cG K) from if_pos ⟨ef, hfs.mp c90⟩, d1, d2]
                  rw [e1, e2] at ih2
                  exact V_lv [0, 3, 2, 1, 4, 5, 6] rfl ih2
          refine V_iload 46 0 rfl dX11_fits_44 rfl ?_
          refine V_aload_n 47 3 rfl _ rfl rfl dX11_fits_46 rfl ?_
          refine V_getI 50 69 11 21 (nI (cH K)) (Fr8.K hF1 hK).1 flX11_175 rfl rfl rfl (by decide) dX11_fits_47 rfl ?_
          refine V_icmp_ge 120 53 rfl dX11_fits_50 rfl (fun c50 => absurd c50 (nI_ge hh (by omega))) (fun c50 => ?_)
          refine V_iconst 54 (0) rfl dX11_fits_53 rfl ?_
          refine V_istore 56 [(6, .int 0), (5, .int (nI h)), (3, .int (nI (cnT K f D bk m (h * cG K)))), (4, .int (fsT K f D bk m (h * cG K))), (0, rf G 69), (1, .int (nI m)), (2, .int y)] (by decide) rfl dX11_fits_54 rfl ?_
          exact V_lv [0, 1, 2, 3, 4, 5, 6] rfl (L2 0 (Nat.zero_le _))
      have L0 := L 0 (Nat.zero_le _)
      rw [Nat.zero_mul] at L0
      exact V_lv [0, 2, 1, 3, 4, 5] rfl L0
    · refine Kq_i (k' := 0) (sl' := 0) rfl rfl ?_
      rw [ckW_n a18] at hq
      refine V_iconst 22 (2) rfl dX11_fits_21 rfl ?_
      refine V_iconst 23 (1) rfl dX11_fits_22 rfl ?_
      refine V_callV (K' := 0) (S' := 0) 26 69 11 3 [.int 0, .int 2, .int 1] mkX11_may lkX11_216 (by decide) rfl rfl (by decide) rfl (Nat.le_of_ble_eq_true rfl) (Nat.le_of_ble_eq_true rfl) (Nat.le_of_ble_eq_true rfl) (Nat.le_of_ble_eq_true rfl) rfl rfl dX11_fits_23 rfl (c_X11_may (cd := 2) (kd := 1) hRM (by decide) (by decide) (by decide) ht (fun e => absurd rfl e) (fun _ => ?_))
      refine Kq_i (k' := 0) (sl' := 0) rfl rfl ?_
      refine V_if_ne 31 29 rfl dX11_fits_26 rfl (fun c26 => absurd c26 (by decide)) (fun c26 => ?_)
      refine V_iconst 30 (0) rfl dX11_fits_29 rfl ?_
      refine V_ret_i rfl rfl (Nat.le_of_ble_eq_true rfl) (fun h => absurd h (by decide)) (Nat.le_of_ble_eq_true rfl) (hq.x hI0 rfl) dX11_fits_30
  · refine Kq_i (k' := 0) (sl' := 0) rfl rfl ?_
    rw [ckN_n (by omega) i8] at hq
    refine V_if_eq 29 14 rfl dX11_fits_11 rfl (fun c11 => ?_) (fun c11 => absurd c11 (by decide))
    refine V_iconst 30 (0) rfl dX11_fits_29 rfl ?_
    refine V_ret_i rfl rfl (Nat.le_of_ble_eq_true rfl) (fun h => absurd h (by decide)) (Nat.le_of_ble_eq_true rfl) (hq.x hI0 rfl) dX11_fits_30
set_option maxHeartbeats 8000000 in
theorem c_X11_look {G : Gx} {d : Nat} {I : FI} {R : FR} {J : FJ} {Q : Po} {K : CO} {f : DV → Int32} {D : DV} (hX : RM I R K f D) {x y : Int32} {nb : Nat} {bk : Nat → Option Nat} (hBm : BookM I nb bk) (hBv : ∀ k v, bk k = some v → k < 24 ∧ v ≤ 99) (hq : HoM I R J Q 2 (ckN x (cM K) (ckW y 0 1 (.inl (if y = 0 then (loT K f D bk x.toNatClampNeg 24).1 else (loT K f D bk x.toNatClampNeg 24).2))))) : Cc G mX11_look (d + 60) 0 0 [rf G 69, .int x, .int y] 103 I R J Q := by
  obtain ⟨I0, hI0⟩ : ∃ I0, I0 = up2 I 69 0 0 := ⟨_, rfl⟩
  have hz := FrM.z hI0
  obtain ⟨hRM, hK, hW, hN, hI, hL, hfR⟩ := hX.fr hz
  have ht : I0 69 0 = 0 := hz.2.1
  have h8 := hW.1
  have hg6 := hW.2.1
  have h6 := hW.2.2.1
  have hWD := hI.1
  have hFl := hI.1.1
  have hB := hI.2.2.1
  have hSt := hI.2.1
  show V _ _ _ _ _ _ _ _ [(0, rf G 69), (1, .int x), (2, .int y)] [] _ _ _ _ _
  refine V_aload_n 1 0 rfl _ rfl rfl dX11_look_0 rfl ?_
  refine V_iconst 2 (0) rfl dX11_look_1 rfl ?_
  refine V_putI 5 69 11 0 flX11_3 rfl rfl rfl (by decide) rfl dX11_look_2 rfl ?_
  rw [← hI0]
  refine V_aload_n 6 0 rfl _ rfl rfl dX11_look_5 rfl ?_
  refine V_iload_n 7 1 rfl rfl dX11_look_6 rfl ?_
  refine V_iconst 8 (1) rfl dX11_look_7 rfl ?_
  refine V_callV (K' := 0) (S' := 0) 11 69 11 2 [.int x, .int 1] mkX11_isMan lkX11_404 (by decide) rfl rfl (by decide) rfl (Nat.le_of_ble_eq_true rfl) (Nat.le_of_ble_eq_true rfl) (Nat.le_of_ble_eq_true rfl) (Nat.le_of_ble_eq_true rfl) rfl rfl dX11_look_8 rfl (c_X11_isMan (c := cM K) (cd := 1) hRM (by omega) hK.2.2.1 (by decide) (by decide) ht (fun i8 => ?_) (fun i8 => ?_))
  · refine Kq_i (k' := 0) (sl' := 0) rfl rfl ?_
    rw [ckN_y (by omega) i8] at hq
    obtain ⟨m, hm, rfl⟩ := i8
    refine V_if_eq 29 14 rfl dX11_look_11 rfl (fun c11 => absurd c11 (by decide)) (fun c11 => ?_)
    refine V_aload_n 15 0 rfl _ rfl rfl dX11_look_14 rfl ?_
    refine V_iload_n 16 2 rfl rfl dX11_look_15 rfl ?_
    refine V_iconst 17 (0) rfl dX11_look_16 rfl ?_
    refine V_iconst 18 (1) rfl dX11_look_17 rfl ?_
    refine V_callS (K' := 0) (S' := 0) 21 3 [.int y, .int 0, .int 1] mkX11_within lkX11_383 rfl (Nat.le_of_ble_eq_true rfl) (Nat.le_of_ble_eq_true rfl) (Nat.le_of_ble_eq_true rfl) (Nat.le_of_ble_eq_true rfl) rfl rfl dX11_look_18 rfl (c_X11_within (fun a18 b18 => ?_) (fun a18 => ?_))
    · refine Kq_i (k' := 0) (sl' := 0) rfl rfl ?_
      rw [ckW_y a18 b18] at hq
      refine V_iconst 22 (2) rfl dX11_look_21 rfl ?_
      refine V_iconst 23 (1) rfl dX11_look_22 rfl ?_
      refine V_callV (K' := 0) (S' := 0) 26 69 11 3 [.int 1, .int 2, .int 1] mkX11_may lkX11_216 (by decide) rfl rfl (by decide) rfl (Nat.le_of_ble_eq_true rfl) (Nat.le_of_ble_eq_true rfl) (Nat.le_of_ble_eq_true rfl) (Nat.le_of_ble_eq_true rfl) rfl rfl dX11_look_23 rfl (c_X11_may (cd := 2) (kd := 1) hRM (by decide) (by decide) (by decide) ht (fun _ => ?_) (fun e => absurd e (by decide)))
      refine Kq_i (k' := 0) (sl' := 0) rfl rfl ?_
      refine V_if_ne 31 29 rfl dX11_look_26 rfl (fun c26 => ?_) (fun c26 => absurd c26 (by decide))
      refine V_aload_n 32 0 rfl _ rfl rfl dX11_look_31 rfl ?_
      refine V_iload_n 33 1 rfl rfl dX11_look_32 rfl ?_
      refine V_callV (K' := 0) (S' := 0) 36 69 11 1 [.int (nI m)] mkX11_findPairs lkX11_428 (by decide) rfl rfl (by decide) rfl (Nat.le_of_ble_eq_true rfl) (Nat.le_of_ble_eq_true rfl) (Nat.le_of_ble_eq_true rfl) (Nat.le_of_ble_eq_true rfl) rfl rfl dX11_look_33 rfl (c_X11_findPairs hRM hK hW hN hL hfR (fun k hk => by rw [hz.1 93 (by decide) (by decide) (by decide) (by decide) (by decide) (by decide)]; exact hBm.2 k hk) hBv hm (fun I1 hF1 hP1 => ?_))
      refine Kq_v (k' := 0) (sl' := 0) rfl rfl ?_
      rw [nI_clamp (show m < 2 ^ 31 by omega)] at hq
      refine V_iconst 37 (-1) rfl dX11_look_36 rfl ?_
      refine V_istore_n 38 [(3, .int (-1)), (0, rf G 69), (1, .int (nI m)), (2, .int y)] (by decide) rfl rfl dX11_look_37 rfl ?_
      refine V_iconst 39 (-1) rfl dX11_look_38 rfl ?_
      refine V_istore 41 [(4, .int (-1)), (3, .int (-1)), (0, rf G 69), (1, .int (nI m)), (2, .int y)] (by decide) rfl dX11_look_39 rfl ?_
      refine V_iconst 42 (0) rfl dX11_look_41 rfl ?_
      refine V_istore 44 [(5, .int 0), (4, .int (-1)), (3, .int (-1)), (0, rf G 69), (1, .int (nI m)), (2, .int y)] (by decide) rfl dX11_look_42 rfl ?_
      have h48 : cH K * cG K ≤ 48 := Nat.mul_le_mul h8 hg6
      have f1 : ∀ I2, (∀ a, a ≠ 100 → I2 a = I1 a) → Fr8 I0 I2 := fun I2 h => Fr8.tr hF1 (fun a _ _ q3 => h a (by omega))
      have hB1 : ∀ k, k < 24 → I1 93 k = oI (bk k) := Fr8.B hF1 (fun k hk => by rw [hz.1 93 (by decide) (by decide) (by decide) (by decide) (by decide) (by decide)]; exact hBm.2 k hk)
      have L : ∀ k, k ≤ 24 → ∀ I2, (∀ a, a ≠ 100 → I2 a = I1 a) → V G mX11_look (d + 60) 0 0 0 0 44 [(5, .int (nI k)), (3, .int ((loT K f D bk m k).1)), (4, .int ((loT K f D bk m k).2)), (0, rf G 69), (1, .int (nI m)), (2, .int y)] [] 103 I2 R J Q := by
        refine loopd 24 (fun I2 hE2 => ?_) (fun k hk ih I2 hE2 => ?_)
        · refine V_iload 46 0 rfl dX11_look_44 rfl ?_
          refine V_bipush 48 (24) rfl dX11_look_46 rfl ?_
          refine V_icmp_ge 228 51 rfl dX11_look_48 rfl (fun c48 => ?_) (fun c48 => absurd (Int32.le_refl _) c48)
          refine V_iload_n 229 5 rfl rfl dX11_look_228 rfl ?_
          refine V_if_ne 236 232 rfl dX11_look_229 rfl (fun c229 => ?_) (fun c229 => ?_)
          · refine V_iload 238 2 rfl dX11_look_236 rfl ?_
            refine V_ret_i rfl rfl (Nat.le_of_ble_eq_true rfl) (fun h => absurd h (by decide)) (Nat.le_of_ble_eq_true rfl) (by rw [if_neg c229] at hq; exact hq I2 (hz.go8 (f1 I2 hE2))) dX11_look_238
          · refine V_iload_n 233 1 rfl rfl dX11_look_232 rfl ?_
            refine V_goto 238 rfl dX11_look_233 ?_
            refine V_ret_i rfl rfl (Nat.le_of_ble_eq_true rfl) (fun h => absurd h (by decide)) (Nat.le_of_ble_eq_true rfl) (by rw [if_pos c229] at hq; exact hq I2 (hz.go8 (f1 I2 hE2))) dX11_look_238
        · have hF2 := f1 I2 hE2
          cases eb : bk k with
          | some v =>
            have v99 := (hBv k v eb).2
            have eS : loT K f D bk m (k + 1) = loT K f D bk m k := if_neg (by rw [eb]; intro q; cases q)
            rw [eS] at ih
            refine V_iload 46 0 rfl dX11_look_44 rfl ?_
            refine V_bipush 48 (24) rfl dX11_look_46 rfl ?_
            refine V_icmp_ge 228 51 rfl dX11_look_48 rfl (fun c48 => absurd c48 (nI_ge hk (by decide))) (fun c48 => ?_)
            refine V_aload_n 52 3 rfl _ rfl rfl dX11_look_51 rfl ?_
            refine V_getR 55 69 11 45 93 (hRM 45) flX11_86 rfl rfl rfl (by decide) dX11_look_52 rfl ?_
            refine V_iload 57 0 rfl dX11_look_55 rfl ?_
            refine V_ialdN 58 93 24 k (nI v) (by rw [hE2 93 (by decide), hB1 k hk, eb]; rfl) (by omega) (by decide) rfl (by decide) dX11_look_57 rfl ?_
            refine V_iconst 59 (-1) rfl dX11_look_58 rfl ?_
            refine V_icmp_eq 65 62 rfl dX11_look_59 rfl (fun c59 => absurd c59 (nI_ne (by omega))) (fun c59 => ?_)
            refine V_goto 222 rfl dX11_look_62 ?_
            refine V_iinc 225 0 rfl (nI (k + 1)) [(5, .int (nI (k + 1))), (3, .int ((loT K f D bk m k).1)), (4, .int ((loT K f D bk m k).2)), (0, rf G 69), (1, .int (nI m)), (2, .int y)] (nI_1 _) (by decide) rfl dX11_look_222 rfl ?_
            refine V_goto 44 rfl dX11_look_225 ?_
            exact V_lv [0, 1, 2, 3, 4, 5] rfl (ih I2 hE2)
          | none =>
            have L3 : ∀ i, i ≤ cH K * cG K → ∀ I3, (∀ a, a ≠ 100 → I3 a = I1 a) → (∀ v, v < 100 → I3 100 v = nI ((tyT K f D bk m k i).1 v)) → V G mX11_look (d + 60) 0 0 0 0 95 [(7, .int (nI i)), (6, .int (nI (tyT K f D bk m k i).2)), (5, .int (nI k)), (3, .int ((loT K f D bk m k).1)), (4, .int ((loT K f D bk m k).2)), (0, rf G 69), (1, .int (nI m)), (2, .int y)] [] 103 I3 R J Q := by
              refine loopd (cH K * cG K) (fun I3 hE3 hT3 => ?_) (fun i hi ih3 I3 hE3 hT3 => ?_)
              · have hF3 := f1 I3 hE3
                refine V_iload 97 0 rfl dX11_look_95 rfl ?_
                refine V_aload_n 98 5 rfl _ rfl rfl dX11_look_97 rfl ?_
                refine V_getI 101 69 11 21 (nI (cH K)) (Fr8.K hF3 hK).1 flX11_175 rfl rfl rfl (by decide) dX11_look_98 rfl ?_
                refine V_aload_n 102 5 rfl _ rfl rfl dX11_look_101 rfl ?_
                refine V_getI 105 69 11 22 (nI (cG K)) (Fr8.K hF3 hK).2.1 flX11_178 rfl rfl rfl (by decide) dX11_look_102 rfl ?_
                refine V_imul 106 dX11_look_105 rfl ?_
                refine V_rw (pk_mul (cH K) (cG K)) ?_
                refine V_icmp_ge 200 109 rfl dX11_look_106 rfl (fun c106 => ?_) (fun c106 => absurd (Int32.le_refl _) c106)
                refine V_iload_n 201 3 rfl rfl dX11_look_200 rfl ?_
                refine V_iconst 202 (-1) rfl dX11_look_201 rfl ?_
                refine V_icmp_eq 215 205 rfl dX11_look_202 rfl (fun c202 => ?_) (fun c202 => ?_)
                · refine V_iload 217 2 rfl dX11_look_215 rfl ?_
                  refine V_istore_n 218 [(3, .int (nI k)), (7, .int (nI (cH K * cG K))), (6, .int (nI (tyT K f D bk m k (cH K * cG K)).2)), (5, .int (nI k)), (4, .int ((loT K f D bk m k).2)), (0, rf G 69), (1, .int (nI m)), (2, .int y)] (by decide) rfl rfl dX11_look_217 rfl ?_
                  refine V_iload 220 2 rfl dX11_look_218 rfl ?_
                  refine V_istore 222 [(4, .int (nI (tyT K f D bk m k (cH K * cG K)).2)), (3, .int (nI k)), (7, .int (nI (cH K * cG K))), (6, .int (nI (tyT K f D bk m k (cH K * cG K)).2)), (5, .int (nI k)), (0, rf G 69), (1, .int (nI m)), (2, .int y)] (by decide) rfl dX11_look_220 rfl ?_
                  refine V_iinc 225 4 rfl (nI (k + 1)) [(5, .int (nI (k + 1))), (4, .int (nI (tyT K f D bk m k (cH K * cG K)).2)), (3, .int (nI k)), (7, .int (nI (cH K * cG K))), (6, .int (nI (tyT K f D bk m k (cH K * cG K)).2)), (0, rf G 69), (1, .int (nI m)), (2, .int y)] (nI_1 _) (by decide) rfl dX11_look_222 rfl ?_
                  refine V_goto 44 rfl dX11_look_225 ?_
                  have eS : loT K f D bk m (k + 1) = (nI k, nI (tyT K f D bk m k (cH K * cG K)).2) := by rw [loT, if_pos eb, if_pos (by first | exact Or.inl c202 | exact Or.inr c209)]
                  rw [eS] at ih
                  exact V_lv [0, 2, 1, 5, 6, 7] rfl (ih I3 hE3)
                · refine V_iload 207 1 rfl dX11_look_205 rfl ?_
                  refine V_iload 209 4 rfl dX11_look_207 rfl ?_
                  refine V_icmp_lt 215 212 rfl dX11_look_209 rfl (fun c209 => ?_) (fun c209 => ?_)
                  · refine V_iload 217 2 rfl dX11_look_215 rfl ?_
                    refine V_istore_n 218 [(3, .int (nI k)), (7, .int (nI (cH K * cG K))), (6, .int (nI (tyT K f D bk m k (cH K * cG K)).2)), (5, .int (nI k)), (4, .int ((loT K f D bk m k).2)), (0, rf G 69), (1, .int (nI m)), (2, .int y)] (by decide) rfl rfl dX11_look_217 rfl ?_
                    refine V_iload 220 2 rfl dX11_look_218 rfl ?_
                    refine V_istore 222 [(4, .int (nI (tyT K f D bk m k (cH K * cG K)).2)), (3, .int (nI k)), (7, .int (nI (cH K * cG K))), (6, .int (nI (tyT K f D bk m k (cH K * cG K)).2)), (5, .int (nI k)), (0, rf G 69), (1, .int (nI m)), (2, .int y)] (by decide) rfl dX11_look_220 rfl ?_
                    refine V_iinc 225 4 rfl (nI (k + 1)) [(5, .int (nI (k + 1))), (4, .int (nI (tyT K f D bk m k (cH K * cG K)).2)), (3, .int (nI k)), (7, .int (nI (cH K * cG K))), (6, .int (nI (tyT K f D bk m k (cH K * cG K)).2)), (0, rf G 69), (1, .int (nI m)), (2, .int y)] (nI_1 _) (by decide) rfl dX11_look_222 rfl ?_
                    refine V_goto 44 rfl dX11_look_225 ?_
                    have eS : loT K f D bk m (k + 1) = (nI k, nI (tyT K f D bk m k (cH K * cG K)).2) := by rw [loT, if_pos eb, if_pos (by first | exact Or.inl c202 | exact Or.inr c209)]
                    rw [eS] at ih
                    exact V_lv [0, 2, 1, 5, 6, 7] rfl (ih I3 hE3)
                  · refine V_goto 222 rfl dX11_look_212 ?_
                    refine V_iinc 225 2 rfl (nI (k + 1)) [(5, .int (nI (k + 1))), (7, .int (nI (cH K * cG K))), (6, .int (nI (tyT K f D bk m k (cH K * cG K)).2)), (3, .int ((loT K f D bk m k).1)), (4, .int ((loT K f D bk m k).2)), (0, rf G 69), (1, .int (nI m)), (2, .int y)] (nI_1 _) (by decide) rfl dX11_look_222 rfl ?_
                    refine V_goto 44 rfl dX11_look_225 ?_
                    have eS : loT K f D bk m (k + 1) = loT K f D bk m k := by rw [loT, if_pos eb, if_neg (fun q => q.elim c202 c209)]
                    rw [eS] at ih
                    exact V_lv [0, 3, 4, 5, 6, 7] rfl (ih I3 hE3)
              · have hF3 := f1 I3 hE3
                have g0 : 0 < cG K := Nat.pos_of_ne_zero (fun e => by rw [e, Nat.mul_zero] at hi; omega)
                have iH : i / cG K < cH K := Nat.div_lt_of_lt_mul (by rw [Nat.mul_comm]; exact hi)
                have iG : i % cG K < cG K := Nat.mod_lt _ g0
                obtain ⟨p1, p2⟩ := hP1 _ iH _ iG
                have p2 : I1 99 (6 * (i / cG K) + i % cG K) = if fitT K f D bk m i = true then 1 else 0 := p2
                obtain ⟨ty2, ty1⟩ := tyT_le (K := K) (f := f) (D := D) (bk := bk) (m := m) (k := k) i
                cases ef : fitT K f D bk m i with
                | false =>
                  rw [ef] at p2
                  have es : tyT K f D bk m k (i + 1) = tyT K f D bk m k i := by rw [tyT, if_neg (by rw [ef]; decide)]
                  rw [es] at ih3
                  refine V_iload 97 0 rfl dX11_look_95 rfl ?_
                  refine V_aload_n 98 5 rfl _ rfl rfl dX11_look_97 rfl ?_
                  refine V_getI 101 69 11 21 (nI (cH K)) (Fr8.K hF3 hK).1 flX11_175 rfl rfl rfl (by decide) dX11_look_98 rfl ?_
                  refine V_aload_n 102 5 rfl _ rfl rfl dX11_look_101 rfl ?_
                  refine V_getI 105 69 11 22 (nI (cG K)) (Fr8.K hF3 hK).2.1 flX11_178 rfl rfl rfl (by decide) dX11_look_102 rfl ?_
                  refine V_imul 106 dX11_look_105 rfl ?_
                  refine V_rw (pk_mul (cH K) (cG K)) ?_
                  refine V_icmp_ge 200 109 rfl dX11_look_106 rfl (fun c106 => absurd c106 (nI_ge hi (by omega))) (fun c106 => ?_)
                  refine V_bipush 111 (6) rfl dX11_look_109 rfl ?_
                  refine V_iload 113 0 rfl dX11_look_111 rfl ?_
                  refine V_aload_n 114 5 rfl _ rfl rfl dX11_look_113 rfl ?_
                  refine V_getI 117 69 11 22 (nI (cG K)) (Fr8.K hF3 hK).2.1 flX11_178 rfl rfl rfl (by decide) dX11_look_114 rfl ?_
                  refine V_idiv 118 (fun e => absurd ((nI_eq (b := 0) (by omega) (by decide)).mp e) (by omega)) dX11_look_117 rfl ?_
                  refine V_rw (show _ = nI (i / cG K) from pk_div (by omega) g0 (by omega)) ?_
                  refine V_imul 119 dX11_look_118 rfl ?_
                  refine V_rw (pk_mul 6 (i / cG K)) ?_
                  refine V_iload 121 0 rfl dX11_look_119 rfl ?_
                  refine V_aload_n 122 5 rfl _ rfl rfl dX11_look_121 rfl ?_
                  refine V_getI 125 69 11 22 (nI (cG K)) (Fr8.K hF3 hK).2.1 flX11_178 rfl rfl rfl (by decide) dX11_look_122 rfl ?_
                  refine V_irem 126 (fun e => absurd ((nI_eq (b := 0) (by omega) (by decide)).mp e) (by omega)) dX11_look_125 rfl ?_
                  refine V_rw (show _ = nI (i % cG K) from pk_rem (by omega) g0 (by omega)) ?_
                  refine V_iadd 127 dX11_look_126 rfl ?_
                  refine V_rw (nI_add (6 * (i / cG K)) (i % cG K)) ?_
                  refine V_istore 129 [(8, .int (nI ((6 * (i / cG K)) + (i % cG K)))), (7, .int (nI i)), (6, .int (nI (tyT K f D bk m k i).2)), (5, .int (nI k)), (3, .int ((loT K f D bk m k).1)), (4, .int ((loT K f D bk m k).2)), (0, rf G 69), (1, .int (nI m)), (2, .int y)] (by decide) rfl dX11_look_127 rfl ?_
                  refine V_aload_n 130 6 rfl _ rfl rfl dX11_look_129 rfl ?_
                  refine V_getR 133 69 11 52 99 (hRM 52) flX11_104 rfl rfl rfl (by decide) dX11_look_130 rfl ?_
                  refine V_iload 135 0 rfl dX11_look_133 rfl ?_
                  refine V_zaldN 136 99 48 ((6 * (i / cG K)) + (i % cG K)) 0 (by rw [hE3 99 (by decide)]; exact p2) (by omega) (by decide) rfl (by decide) dX11_look_135 rfl ?_
                  refine V_if_ne 142 139 rfl dX11_look_136 rfl (fun c136 => absurd c136 (by decide)) (fun c136 => ?_)
                  refine V_goto 194 rfl dX11_look_139 ?_
                  refine V_iinc 197 1 rfl (nI (i + 1)) [(7, .int (nI (i + 1))), (8, .int (nI ((6 * (i / cG K)) + (i % cG K)))), (6, .int (nI (tyT K f D bk m k i).2)), (5, .int (nI k)), (3, .int ((loT K f D bk m k).1)), (4, .int ((loT K f D bk m k).2)), (0, rf G 69), (1, .int (nI m)), (2, .int y)] (nI_1 _) (by decide) rfl dX11_look_194 rfl ?_
                  refine V_goto 95 rfl dX11_look_197 ?_
                  exact V_lv [0, 2, 3, 4, 5, 6, 7, 8] rfl (ih3 I3 hE3 hT3)
                | true =>
                  rw [ef] at p2
                  obtain ⟨q, q99, eq⟩ := alS_R (K := K) hfR D m (i / cG K) (i % cG K) k
                  have tq := ty1 q
                  have es : tyT K f D bk m k (i + 1) = (fun v => if v = q then (tyT K f D bk m k i).1 v + 1 else (tyT K f D bk m k i).1 v, max (tyT K f D bk m k i).2 ((tyT K f D bk m k i).1 q + 1)) := by
                    have z : (alS K f D m (i / cG K) (i % cG K) k).toNatClampNeg = q := by rw [eq, nI_clamp (by omega)]
                    rw [tyT, if_pos ef, z]
                  rw [es] at ih3
                  dsimp only at ih3
                  refine V_iload 97 0 rfl dX11_look_95 rfl ?_
                  refine V_aload_n 98 5 rfl _ rfl rfl dX11_look_97 rfl ?_
                  refine V_getI 101 69 11 21 (nI (cH K)) (Fr8.K hF3 hK).1 flX11_175 rfl rfl rfl (by decide) dX11_look_98 rfl ?_
                  refine V_aload_n 102 5 rfl _ rfl rfl dX11_look_101 rfl ?_
                  refine V_getI 105 69 11 22 (nI (cG K)) (Fr8.K hF3 hK).2.1 flX11_178 rfl rfl rfl (by decide) dX11_look_102 rfl ?_
                  refine V_imul 106 dX11_look_105 rfl ?_
                  refine V_rw (pk_mul (cH K) (cG K)) ?_
                  refine V_icmp_ge 200 109 rfl dX11_look_106 rfl (fun c106 => absurd c106 (nI_ge hi (by omega))) (fun c106 => ?_)
                  refine V_bipush 111 (6) rfl dX11_look_109 rfl ?_
                  refine V_iload 113 0 rfl dX11_look_111 rfl ?_
                  refine V_aload_n 114 5 rfl _ rfl rfl dX11_look_113 rfl ?_
                  refine V_getI 117 69 11 22 (nI (cG K)) (Fr8.K hF3 hK).2.1 flX11_178 rfl rfl rfl (by decide) dX11_look_114 rfl ?_
                  refine V_idiv 118 (fun e => absurd ((nI_eq (b := 0) (by omega) (by decide)).mp e) (by omega)) dX11_look_117 rfl ?_
                  refine V_rw (show _ = nI (i / cG K) from pk_div (by omega) g0 (by omega)) ?_
                  refine V_imul 119 dX11_look_118 rfl ?_
                  refine V_rw (pk_mul 6 (i / cG K)) ?_
                  refine V_iload 121 0 rfl dX11_look_119 rfl ?_
                  refine V_aload_n 122 5 rfl _ rfl rfl dX11_look_121 rfl ?_
                  refine V_getI 125 69 11 22 (nI (cG K)) (Fr8.K hF3 hK).2.1 flX11_178 rfl rfl rfl (by decide) dX11_look_122 rfl ?_
                  refine V_irem 126 (fun e => absurd ((nI_eq (b := 0) (by omega) (by decide)).mp e) (by omega)) dX11_look_125 rfl ?_
                  refine V_rw (show _ = nI (i % cG K) from pk_rem (by omega) g0 (by omega)) ?_
                  refine V_iadd 127 dX11_look_126 rfl ?_
                  refine V_rw (nI_add (6 * (i / cG K)) (i % cG K)) ?_
                  refine V_istore 129 [(8, .int (nI ((6 * (i / cG K)) + (i % cG K)))), (7, .int (nI i)), (6, .int (nI (tyT K f D bk m k i).2)), (5, .int (nI k)), (3, .int ((loT K f D bk m k).1)), (4, .int ((loT K f D bk m k).2)), (0, rf G 69), (1, .int (nI m)), (2, .int y)] (by decide) rfl dX11_look_127 rfl ?_
                  refine V_aload_n 130 6 rfl _ rfl rfl dX11_look_129 rfl ?_
                  refine V_getR 133 69 11 52 99 (hRM 52) flX11_104 rfl rfl rfl (by decide) dX11_look_130 rfl ?_
                  refine V_iload 135 0 rfl dX11_look_133 rfl ?_
                  refine V_zaldN 136 99 48 ((6 * (i / cG K)) + (i % cG K)) 1 (by rw [hE3 99 (by decide)]; exact p2) (by omega) (by decide) rfl (by decide) dX11_look_135 rfl ?_
                  refine V_if_ne 142 139 rfl dX11_look_136 rfl (fun c136 => ?_) (fun c136 => absurd c136 (by decide))
                  refine V_aload_n 143 6 rfl _ rfl rfl dX11_look_142 rfl ?_
                  refine V_getR 146 69 11 51 98 (hRM 51) flX11_101 rfl rfl rfl (by decide) dX11_look_143 rfl ?_
                  refine V_bipush 148 (24) rfl dX11_look_146 rfl ?_
                  refine V_iload 150 0 rfl dX11_look_148 rfl ?_
                  refine V_imul 151 dX11_look_150 rfl ?_
                  refine V_rw (pk_mul 24 ((6 * (i / cG K)) + (i % cG K))) ?_
                  refine V_iload 153 3 rfl dX11_look_151 rfl ?_
                  refine V_iadd 154 dX11_look_153 rfl ?_
                  refine V_rw (nI_add (24 * ((6 * (i / cG K)) + (i % cG K))) k) ?_
                  refine V_ialdN 155 98 1152 ((24 * ((6 * (i / cG K)) + (i % cG K))) + k) (nI q) ((by rw [hE3 98 (by decide)]; exact p1 k hk : I3 98 (24 * (6 * (i / cG K) + i % cG K) + k) = _).trans eq) (by omega) (by decide) rfl (by decide) dX11_look_154 rfl ?_
                  refine V_istore 157 [(9, .int (nI q)), (8, .int (nI ((6 * (i / cG K)) + (i % cG K)))), (7, .int (nI i)), (6, .int (nI (tyT K f D bk m k i).2)), (5, .int (nI k)), (3, .int ((loT K f D bk m k).1)), (4, .int ((loT K f D bk m k).2)), (0, rf G 69), (1, .int (nI m)), (2, .int y)] (by decide) rfl dX11_look_155 rfl ?_
                  refine V_aload_n 158 7 rfl _ rfl rfl dX11_look_157 rfl ?_
                  refine V_getR 161 69 11 53 100 (hRM 53) flX11_108 rfl rfl rfl (by decide) dX11_look_158 rfl ?_
                  refine V_iload 163 0 rfl dX11_look_161 rfl ?_
                  refine V_dup2 164 rfl rfl dX11_look_163 rfl ?_
                  refine V_ialdN 165 100 100 q (nI ((tyT K f D bk m k i).1 q)) (hT3 q (by omega)) (by omega) (by decide) rfl (by decide) dX11_look_164 rfl ?_
                  refine V_iconst 166 (1) rfl dX11_look_165 rfl ?_
                  refine V_iadd 167 dX11_look_166 rfl ?_
                  refine V_rw (nI_add ((tyT K f D bk m k i).1 q) 1) ?_
                  refine V_iastN 168 100 100 q (by omega) (by decide) rfl (by decide) dX11_look_167 rfl ?_
                  refine V_aload_n 169 7 rfl _ rfl rfl dX11_look_168 rfl ?_
                  refine V_getR 172 69 11 53 100 (hRM 53) flX11_108 rfl rfl rfl (by decide) dX11_look_169 rfl ?_
                  refine V_iload 174 0 rfl dX11_look_172 rfl ?_
                  refine V_ialdN 175 100 100 q (nI ((tyT K f D bk m k i).1 q + 1)) (by rw [up2_s]; exact upd_s) (by omega) (by decide) rfl (by decide) dX11_look_174 rfl ?_
                  refine V_iload 177 3 rfl dX11_look_175 rfl ?_
                  refine V_icmp_le 190 180 rfl dX11_look_177 rfl (fun c177 => ?_) (fun c177 => ?_)
                  · refine V_iload 192 3 rfl dX11_look_190 rfl ?_
                    refine V_istore 194 [(6, .int (nI (tyT K f D bk m k i).2)), (9, .int (nI q)), (8, .int (nI ((6 * (i / cG K)) + (i % cG K)))), (7, .int (nI i)), (5, .int (nI k)), (3, .int ((loT K f D bk m k).1)), (4, .int ((loT K f D bk m k).2)), (0, rf G 69), (1, .int (nI m)), (2, .int y)] (by decide) rfl dX11_look_192 rfl ?_
                    refine V_iinc 197 3 rfl (nI (i + 1)) [(7, .int (nI (i + 1))), (6, .int (nI (tyT K f D bk m k i).2)), (9, .int (nI q)), (8, .int (nI ((6 * (i / cG K)) + (i % cG K)))), (5, .int (nI k)), (3, .int ((loT K f D bk m k).1)), (4, .int ((loT K f D bk m k).2)), (0, rf G 69), (1, .int (nI m)), (2, .int y)] (nI_1 _) (by decide) rfl dX11_look_194 rfl ?_
                    refine V_goto 95 rfl dX11_look_197 ?_
                    have em : max (tyT K f D bk m k i).2 ((tyT K f D bk m k i).1 q + 1) = (tyT K f D bk m k i).2 := Nat.max_eq_left ((nI_leI (by omega) (by omega)).mp c177)
                    rw [em] at ih3
                    refine V_lv [0, 1, 4, 5, 6, 7, 8, 9] rfl (ih3 _ (fun a z => by rw [up2_n _ _ _ z]; exact hE3 a z) (fun v hv => ?_))
                    rw [up2_s]
                    by_cases c : v = q
                    · subst c; rw [upd_s, if_pos rfl]
                    · rw [upd_n c, if_neg c]; exact hT3 v hv
                  · refine V_aload_n 181 7 rfl _ rfl rfl dX11_look_180 rfl ?_
                    refine V_getR 184 69 11 53 100 (hRM 53) flX11_108 rfl rfl rfl (by decide) dX11_look_181 rfl ?_
                    refine V_iload 186 0 rfl dX11_look_184 rfl ?_
                    refine V_ialdN 187 100 100 q (nI ((tyT K f D bk m k i).1 q + 1)) (by rw [up2_s]; exact upd_s) (by omega) (by decide) rfl (by decide) dX11_look_186 rfl ?_
                    refine V_goto 192 rfl dX11_look_187 ?_
                    refine V_istore 194 [(6, .int (nI ((tyT K f D bk m k i).1 q + 1))), (9, .int (nI q)), (8, .int (nI ((6 * (i / cG K)) + (i % cG K)))), (7, .int (nI i)), (5, .int (nI k)), (3, .int ((loT K f D bk m k).1)), (4, .int ((loT K f D bk m k).2)), (0, rf G 69), (1, .int (nI m)), (2, .int y)] (by decide) rfl dX11_look_192 rfl ?_
                    refine V_iinc 197 3 rfl (nI (i + 1)) [(7, .int (nI (i + 1))), (6, .int (nI ((tyT K f D bk m k i).1 q + 1))), (9, .int (nI q)), (8, .int (nI ((6 * (i / cG K)) + (i % cG K)))), (5, .int (nI k)), (3, .int ((loT K f D bk m k).1)), (4, .int ((loT K f D bk m k).2)), (0, rf G 69), (1, .int (nI m)), (2, .int y)] (nI_1 _) (by decide) rfl dX11_look_194 rfl ?_
                    refine V_goto 95 rfl dX11_look_197 ?_
                    have em : max (tyT K f D bk m k i).2 ((tyT K f D bk m k i).1 q + 1) = (tyT K f D bk m k i).1 q + 1 := Nat.max_eq_right (by have := mt (nI_leI (by omega) (by omega)).mpr c177; omega)
                    rw [em] at ih3
                    refine V_lv [0, 1, 4, 5, 6, 7, 8, 9] rfl (ih3 _ (fun a z => by rw [up2_n _ _ _ z]; exact hE3 a z) (fun v hv => ?_))
                    rw [up2_s]
                    by_cases c : v = q
                    · subst c; rw [upd_s, if_pos rfl]
                    · rw [upd_n c, if_neg c]; exact hT3 v hv
            have L2 : ∀ v, v ≤ 100 → ∀ I3, (∀ a, a ≠ 100 → I3 a = I1 a) → (∀ j, j < v → I3 100 j = 0) → V G mX11_look (d + 60) 0 0 0 0 68 [(6, .int (nI v)), (5, .int (nI k)), (3, .int ((loT K f D bk m k).1)), (4, .int ((loT K f D bk m k).2)), (0, rf G 69), (1, .int (nI m)), (2, .int y)] [] 103 I3 R J Q := by
              refine loopd 100 (fun I3 hE3 hT3 => ?_) (fun v hv ih3 I3 hE3 hT3 => ?_)
              · refine V_iload 70 0 rfl dX11_look_68 rfl ?_
                refine V_bipush 72 (99) rfl dX11_look_70 rfl ?_
                refine V_icmp_gt 89 75 rfl dX11_look_72 rfl (fun c72 => ?_) (fun c72 => absurd (by decide) c72)
                refine V_iconst 90 (0) rfl dX11_look_89 rfl ?_
                refine V_istore 92 [(6, .int 0), (5, .int (nI k)), (3, .int ((loT K f D bk m k).1)), (4, .int ((loT K f D bk m k).2)), (0, rf G 69), (1, .int (nI m)), (2, .int y)] (by decide) rfl dX11_look_90 rfl ?_
                refine V_iconst 93 (0) rfl dX11_look_92 rfl ?_
                refine V_istore 95 [(7, .int 0), (6, .int 0), (5, .int (nI k)), (3, .int ((loT K f D bk m k).1)), (4, .int ((loT K f D bk m k).2)), (0, rf G 69), (1, .int (nI m)), (2, .int y)] (by decide) rfl dX11_look_93 rfl ?_
                exact V_lv [0, 1, 2, 3, 4, 5, 6, 7] rfl (L3 0 (Nat.zero_le _) I3 hE3 hT3)
              · refine V_iload 70 0 rfl dX11_look_68 rfl ?_
                refine V_bipush 72 (99) rfl dX11_look_70 rfl ?_
                refine V_icmp_gt 89 75 rfl dX11_look_72 rfl (fun c72 => absurd ((nI_ltI (a := 99) (by decide) (by omega)).mp c72) (by omega)) (fun c72 => ?_)
                refine V_aload_n 76 4 rfl _ rfl rfl dX11_look_75 rfl ?_
                refine V_getR 79 69 11 53 100 (hRM 53) flX11_108 rfl rfl rfl (by decide) dX11_look_76 rfl ?_
                refine V_iload 81 0 rfl dX11_look_79 rfl ?_
                refine V_iconst 82 (0) rfl dX11_look_81 rfl ?_
                refine V_iastN 83 100 100 v (by omega) (by decide) rfl (by decide) dX11_look_82 rfl ?_
                refine V_iinc 86 0 rfl (nI (v + 1)) [(6, .int (nI (v + 1))), (5, .int (nI k)), (3, .int ((loT K f D bk m k).1)), (4, .int ((loT K f D bk m k).2)), (0, rf G 69), (1, .int (nI m)), (2, .int y)] (nI_1 _) (by decide) rfl dX11_look_83 rfl ?_
                refine V_goto 68 rfl dX11_look_86 ?_
                refine V_lv [0, 1, 2, 3, 4, 5, 6] rfl (ih3 _ (fun a z => by rw [up2_n _ _ _ z]; exact hE3 a z) (fun j hj => ?_))
                rw [up2_s]
                by_cases c : j = v
                · subst c; exact upd_s
                · rw [upd_n c]; exact hT3 j (by omega)
            refine V_iload 46 0 rfl dX11_look_44 rfl ?_
            refine V_bipush 48 (24) rfl dX11_look_46 rfl ?_
            refine V_icmp_ge 228 51 rfl dX11_look_48 rfl (fun c48 => absurd c48 (nI_ge hk (by decide))) (fun c48 => ?_)
            refine V_aload_n 52 3 rfl _ rfl rfl dX11_look_51 rfl ?_
            refine V_getR 55 69 11 45 93 (hRM 45) flX11_86 rfl rfl rfl (by decide) dX11_look_52 rfl ?_
            refine V_iload 57 0 rfl dX11_look_55 rfl ?_
            refine V_ialdN 58 93 24 k (-1) (by rw [hE2 93 (by decide), hB1 k hk, eb]; rfl) (by omega) (by decide) rfl (by decide) dX11_look_57 rfl ?_
            refine V_iconst 59 (-1) rfl dX11_look_58 rfl ?_
            refine V_icmp_eq 65 62 rfl dX11_look_59 rfl (fun c59 => ?_) (fun c59 => absurd rfl c59)
            refine V_iconst 66 (0) rfl dX11_look_65 rfl ?_
            refine V_istore 68 [(6, .int 0), (5, .int (nI k)), (3, .int ((loT K f D bk m k).1)), (4, .int ((loT K f D bk m k).2)), (0, rf G 69), (1, .int (nI m)), (2, .int y)] (by decide) rfl dX11_look_66 rfl ?_
            exact V_lv [0, 1, 2, 3, 4, 5, 6] rfl (L2 0 (Nat.zero_le _) I2 hE2 (fun j q => absurd q (Nat.not_lt_zero _)))
      exact V_lv [0, 2, 1, 3, 4, 5] rfl (L 0 (Nat.zero_le _) I1 (fun _ _ => rfl))
    · refine Kq_i (k' := 0) (sl' := 0) rfl rfl ?_
      rw [ckW_n a18] at hq
      refine V_iconst 22 (2) rfl dX11_look_21 rfl ?_
      refine V_iconst 23 (1) rfl dX11_look_22 rfl ?_
      refine V_callV (K' := 0) (S' := 0) 26 69 11 3 [.int 0, .int 2, .int 1] mkX11_may lkX11_216 (by decide) rfl rfl (by decide) rfl (Nat.le_of_ble_eq_true rfl) (Nat.le_of_ble_eq_true rfl) (Nat.le_of_ble_eq_true rfl) (Nat.le_of_ble_eq_true rfl) rfl rfl dX11_look_23 rfl (c_X11_may (cd := 2) (kd := 1) hRM (by decide) (by decide) (by decide) ht (fun e => absurd rfl e) (fun _ => ?_))
      refine Kq_i (k' := 0) (sl' := 0) rfl rfl ?_
      refine V_if_ne 31 29 rfl dX11_look_26 rfl (fun c26 => absurd c26 (by decide)) (fun c26 => ?_)
      refine V_iconst 30 (0) rfl dX11_look_29 rfl ?_
      refine V_ret_i rfl rfl (Nat.le_of_ble_eq_true rfl) (fun h => absurd h (by decide)) (Nat.le_of_ble_eq_true rfl) (hq.x hI0 rfl) dX11_look_30
  · refine Kq_i (k' := 0) (sl' := 0) rfl rfl ?_
    rw [ckN_n (by omega) i8] at hq
    refine V_if_eq 29 14 rfl dX11_look_11 rfl (fun c11 => ?_) (fun c11 => absurd c11 (by decide))
    refine V_iconst 30 (0) rfl dX11_look_29 rfl ?_
    refine V_ret_i rfl rfl (Nat.le_of_ble_eq_true rfl) (fun h => absurd h (by decide)) (Nat.le_of_ble_eq_true rfl) (hq.x hI0 rfl) dX11_look_30
