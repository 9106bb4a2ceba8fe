set_option maxHeartbeats 16000000 in
theorem c_X11_findHatted {G : Gx} {d : Nat} {I : FI} {R : FR} {J : FJ} {Q : Po} (hRM : ∀ k, R 69 k = refM k) {K : CO} {f : DV → Int32} {D : DV} (hK : CoastM I K) (hW : WK K) (hN : ∀ k, k < 51 → I 88 k = D k) (hL : LawM I f) (hfR : fR f) (hFl : Flg D) {g : Nat} (hg : g < cG K) (hq : ∀ I', Fr6 I I' → I' 95 0 = oI (LO D (pA K f D g) (cM K) (cH K) (cM K) 0) → (∀ m, m < cM K → I' 96 m = oI (givO D (pA K f D g) (cM K) (cH K) m)) → Q (.inl none) 103 I' R J) : Cc G mX11_findHatted (d + 10) 0 0 [rf G 69, .int (nI g)] 103 I R J Q := by
  have h8 := hW.1
  have h6 := hW.2.2.1
  have p8 := pow8 h8
  have HG : ∀ I3, Fr6 I I3 → CsM I3 K f D g → (∀ m, m ≤ cM K → ∀ s, s < 2 ^ cH K → I3 95 (256 * m + s) = oI (LO D (pA K f D g) (cM K) (cH K) (cM K - m) s)) → V G mX11_findHatted (d + 10) 0 0 0 0 58 [(3, .int (nI 0)), (2, .int (nI 0)), (0, rf G 69), (1, .int (nI g))] [] 103 I3 R J Q := by
    intro I3 hF3 hC3 hR3
    have h950 := hR3 0 (Nat.zero_le _) 0 p8.1
    rw [Nat.sub_zero] at h950
    have hN3 := Fr6.N hF3 hN
    have f96 : ∀ I4, (∀ a, a ≠ 96 → I4 a = I3 a) → Fr6 I I4 := fun I4 h => Fr6.tr hF3 (Fr6.o (b := 96) (by decide) h)
    cases eL : LO D (pA K f D g) (cM K) (cH K) (cM K) 0 with
    | none =>
      rw [eL] at h950 hq
      have L : ∀ i, i ≤ cM K → ∀ I4, (∀ a, a ≠ 96 → I4 a = I3 a) → (∀ m, m < i → I4 96 m = -1) → V G mX11_findHatted (d + 10) 0 0 0 0 58 [(3, .int (nI i)), (2, .int (nI 0)), (0, rf G 69), (1, .int (nI g))] [] 103 I4 R J Q := by
        refine loopd (cM K) (fun I4 hE4 hG4 => ?_) (fun i hi ih I4 hE4 hG4 => ?_)
        · have hF4 := f96 I4 hE4
          refine V_iload_n 59 0 rfl rfl dX11_findHatted_58 rfl ?_
          refine V_aload_n 60 2 rfl _ rfl rfl dX11_findHatted_59 rfl ?_
          refine V_getI 63 69 11 23 (nI (cM K)) (Fr6.K hF4 hK).2.2.1 flX11_181 rfl rfl rfl (by decide) dX11_findHatted_60 rfl ?_
          refine V_icmp_ge 219 66 rfl dX11_findHatted_63 rfl (fun c63 => ?_) (fun c63 => absurd (Int32.le_refl _) c63)
          refine V_ret_v rfl (Nat.le_of_ble_eq_true rfl) (fun h => absurd h (by decide)) (Nat.le_of_ble_eq_true rfl) (hq I4 hF4 (by rw [hE4 95 (by decide)]; exact h950) (fun m hm => by unfold givO; rw [if_pos eL]; exact hG4 m hm)) dX11_findHatted_219
        · have hF4 := f96 I4 hE4
          obtain ⟨I5, eI5⟩ : ∃ I5, I5 = up2 I4 96 i (-1) := ⟨_, rfl⟩
          have hE5 : ∀ a, a ≠ 96 → I5 a = I3 a := fun a q => by rw [eI5, up2_n _ _ _ q]; exact hE4 a q
          have hF5 := f96 I5 hE5
          have hi5 : I5 96 i = -1 := by rw [eI5, up2_s]; exact upd_s
          have hG5 : ∀ m, m < i + 1 → I5 96 m = -1 := fun m hm => by
            by_cases e : m = i
            · rw [e]; exact hi5
            · rw [eI5, up2_s, upd_n e]; exact hG4 m (by omega)
          refine V_iload_n 59 0 rfl rfl dX11_findHatted_58 rfl ?_
          refine V_aload_n 60 2 rfl _ rfl rfl dX11_findHatted_59 rfl ?_
          refine V_getI 63 69 11 23 (nI (cM K)) (Fr6.K hF4 hK).2.2.1 flX11_181 rfl rfl rfl (by decide) dX11_findHatted_60 rfl ?_
          refine V_icmp_ge 219 66 rfl dX11_findHatted_63 rfl (fun c63 => absurd c63 (nI_ge hi (by omega))) (fun c63 => ?_)
          refine V_aload_n 67 2 rfl _ rfl rfl dX11_findHatted_66 rfl ?_
          refine V_getR 70 69 11 49 96 (hRM 49) flX11_95 rfl rfl rfl (by decide) dX11_findHatted_67 rfl ?_
          refine V_iload_n 71 0 rfl rfl dX11_findHatted_70 rfl ?_
          refine V_iconst 72 (-1) rfl dX11_findHatted_71 rfl ?_
          refine V_iastN 73 96 6 i (by omega) (by decide) rfl (by decide) dX11_findHatted_72 rfl ?_
          rw [← eI5]
          refine V_aload_n 74 2 rfl _ rfl rfl dX11_findHatted_73 rfl ?_
          refine V_getI 77 69 11 21 (nI (cH K)) (Fr6.K hF5 hK).1 flX11_175 rfl rfl rfl (by decide) dX11_findHatted_74 rfl ?_
          refine V_iconst 78 (1) rfl dX11_findHatted_77 rfl ?_
          refine V_isub 79 dX11_findHatted_78 rfl ?_
          refine V_istore 81 [(4, .int ((nI (cH K)) - 1)), (3, .int (nI i)), (2, .int (nI 0)), (0, rf G 69), (1, .int (nI g))] (by decide) rfl dX11_findHatted_79 rfl ?_
          refine V_iload 83 0 rfl dX11_findHatted_81 rfl ?_
          refine V_if_lt 192 86 rfl dX11_findHatted_83 rfl (fun c83 => ?_) (fun c83 => ?_)
          · refine V_aload_n 193 3 rfl _ rfl rfl dX11_findHatted_192 rfl ?_
            refine V_getR 196 69 11 49 96 (hRM 49) flX11_95 rfl rfl rfl (by decide) dX11_findHatted_193 rfl ?_
            refine V_iload_n 197 1 rfl rfl dX11_findHatted_196 rfl ?_
            refine V_ialdN 198 96 6 i (-1) hi5 (by omega) (by decide) rfl (by decide) dX11_findHatted_197 rfl ?_
            refine V_iconst 199 (-1) rfl dX11_findHatted_198 rfl ?_
            refine V_icmp_eq 213 202 rfl dX11_findHatted_199 rfl (fun c199 => ?_) (fun c199 => absurd rfl c199)
            refine V_iinc 216 1 rfl (nI (i + 1)) [(3, .int (nI (i + 1))), (4, .int ((nI (cH K)) - 1)), (2, .int (nI 0)), (0, rf G 69), (1, .int (nI g))] (nI_1 _) (by decide) rfl dX11_findHatted_213 rfl ?_
            refine V_goto 58 rfl dX11_findHatted_216 ?_
            exact V_lv [0, 2, 3, 4] rfl (ih I5 hE5 hG5)
          · refine V_aload_n 87 3 rfl _ rfl rfl dX11_findHatted_86 rfl ?_
            refine V_getR 90 69 11 40 88 (hRM 40) flX11_71 rfl rfl rfl (by decide) dX11_findHatted_87 rfl ?_
            refine V_bipush 92 (30) rfl dX11_findHatted_90 rfl ?_
            refine V_iload_n 93 1 rfl rfl dX11_findHatted_92 rfl ?_
            refine V_iadd 94 dX11_findHatted_93 rfl ?_
            refine V_rw (nI_add 30 i) ?_
            refine V_ialdN 95 88 51 (30 + i) (D (30 + i)) (by rw [hE5 88 (by decide)]; exact hN3 (30 + i) (by omega)) (by omega) (by decide) rfl (by decide) dX11_findHatted_94 rfl ?_
            refine V_iconst 96 (1) rfl dX11_findHatted_95 rfl ?_
            refine V_icmp_ne 192 99 rfl dX11_findHatted_96 rfl (fun c96 => ?_) (fun c96 => ?_)
            · refine V_aload_n 193 3 rfl _ rfl rfl dX11_findHatted_192 rfl ?_
              refine V_getR 196 69 11 49 96 (hRM 49) flX11_95 rfl rfl rfl (by decide) dX11_findHatted_193 rfl ?_
              refine V_iload_n 197 1 rfl rfl dX11_findHatted_196 rfl ?_
              refine V_ialdN 198 96 6 i (-1) hi5 (by omega) (by decide) rfl (by decide) dX11_findHatted_197 rfl ?_
              refine V_iconst 199 (-1) rfl dX11_findHatted_198 rfl ?_
              refine V_icmp_eq 213 202 rfl dX11_findHatted_199 rfl (fun c199 => ?_) (fun c199 => absurd rfl c199)
              refine V_iinc 216 1 rfl (nI (i + 1)) [(3, .int (nI (i + 1))), (4, .int ((nI (cH K)) - 1)), (2, .int (nI 0)), (0, rf G 69), (1, .int (nI g))] (nI_1 _) (by decide) rfl dX11_findHatted_213 rfl ?_
              refine V_goto 58 rfl dX11_findHatted_216 ?_
              exact V_lv [0, 2, 3, 4] rfl (ih I5 hE5 hG5)
            · refine V_aload_n 100 3 rfl _ rfl rfl dX11_findHatted_99 rfl ?_
              refine V_getR 103 69 11 48 95 (hRM 48) flX11_92 rfl rfl rfl (by decide) dX11_findHatted_100 rfl ?_
              refine V_iconst 104 (0) rfl dX11_findHatted_103 rfl ?_
              refine V_ialdN 105 95 1792 0 (-1) (by rw [hE5 95 (by decide)]; exact h950) (by omega) (by decide) rfl (by decide) dX11_findHatted_104 rfl ?_
              refine V_iconst 106 (-1) rfl dX11_findHatted_105 rfl ?_
              refine V_icmp_eq 192 109 rfl dX11_findHatted_106 rfl (fun c106 => ?_) (fun c106 => absurd rfl c106)
              refine V_aload_n 193 3 rfl _ rfl rfl dX11_findHatted_192 rfl ?_
              refine V_getR 196 69 11 49 96 (hRM 49) flX11_95 rfl rfl rfl (by decide) dX11_findHatted_193 rfl ?_
              refine V_iload_n 197 1 rfl rfl dX11_findHatted_196 rfl ?_
              refine V_ialdN 198 96 6 i (-1) hi5 (by omega) (by decide) rfl (by decide) dX11_findHatted_197 rfl ?_
              refine V_iconst 199 (-1) rfl dX11_findHatted_198 rfl ?_
              refine V_icmp_eq 213 202 rfl dX11_findHatted_199 rfl (fun c199 => ?_) (fun c199 => absurd rfl c199)
              refine V_iinc 216 1 rfl (nI (i + 1)) [(3, .int (nI (i + 1))), (4, .int ((nI (cH K)) - 1)), (2, .int (nI 0)), (0, rf G 69), (1, .int (nI g))] (nI_1 _) (by decide) rfl dX11_findHatted_213 rfl ?_
              refine V_goto 58 rfl dX11_findHatted_216 ?_
              exact V_lv [0, 2, 3, 4] rfl (ih I5 hE5 hG5)
      exact L 0 (Nat.zero_le _) I3 (fun _ _ => rfl) (fun m hm => absurd hm (Nat.not_lt_zero _))
    | some v0 =>
      have hne : LO D (pA K f D g) (cM K) (cH K) (cM K) 0 ≠ none := by rw [eL]; intro q; cases q
      have v06 := LO_600 (m := 0) hfR h6 (by rw [Nat.sub_zero]; exact eL)
      rw [eL] at h950 hq
      have L : ∀ i, i ≤ cM K → ∀ I4, (∀ a, a ≠ 96 → I4 a = I3 a) → (∀ m, m < i → I4 96 m = oI (gfO D (pA K f D g) (cM K) (cH K) (setF D (pA K f D g) (cM K) (cH K) m) m)) → V G mX11_findHatted (d + 10) 0 0 0 0 58 [(3, .int (nI i)), (2, .int (nI (setF D (pA K f D g) (cM K) (cH K) i))), (0, rf G 69), (1, .int (nI g))] [] 103 I4 R J Q := by
        refine loopd (cM K) (fun I4 hE4 hG4 => ?_) (fun i hi ih I4 hE4 hG4 => ?_)
        · have hF4 := f96 I4 hE4
          refine V_iload_n 59 0 rfl rfl dX11_findHatted_58 rfl ?_
          refine V_aload_n 60 2 rfl _ rfl rfl dX11_findHatted_59 rfl ?_
          refine V_getI 63 69 11 23 (nI (cM K)) (Fr6.K hF4 hK).2.2.1 flX11_181 rfl rfl rfl (by decide) dX11_findHatted_60 rfl ?_
          refine V_icmp_ge 219 66 rfl dX11_findHatted_63 rfl (fun c63 => ?_) (fun c63 => absurd (Int32.le_refl _) c63)
          refine V_ret_v rfl (Nat.le_of_ble_eq_true rfl) (fun h => absurd h (by decide)) (Nat.le_of_ble_eq_true rfl) (hq I4 hF4 (by rw [hE4 95 (by decide)]; exact h950) (fun m hm => by unfold givO; rw [if_neg hne]; exact hG4 m hm)) dX11_findHatted_219
        · have hF4 := f96 I4 hE4
          obtain ⟨s1, s2, s3⟩ := set_ok h8 hne i (by omega)
          have es : setF D (pA K f D g) (cM K) (cH K) (i + 1) = match gfO D (pA K f D g) (cM K) (cH K) (setF D (pA K f D g) (cM K) (cH K) i) i with
            | some h => setF D (pA K f D g) (cM K) (cH K) i + 2 ^ h
            | none => setF D (pA K f D g) (cM K) (cH K) i := rfl
          obtain ⟨I5, eI5⟩ : ∃ I5, I5 = up2 I4 96 i (-1) := ⟨_, rfl⟩
          have hE5 : ∀ a, a ≠ 96 → I5 a = I3 a := fun a q => by rw [eI5, up2_n _ _ _ q]; exact hE4 a q
          have hF5 := f96 I5 hE5
          have hi5 : I5 96 i = -1 := by rw [eI5, up2_s]; exact upd_s
          have hG5 : ∀ m, m < i → I5 96 m = oI (gfO D (pA K f D g) (cM K) (cH K) (setF D (pA K f D g) (cM K) (cH K) m) m) := fun m hm => by rw [eI5, up2_s, upd_n (by omega)]; exact hG4 m hm
          by_cases cl : D (30 + i) = 1
          · rw [LO_m hi, if_pos cl] at s1
            obtain ⟨w1, w2, ef⟩ : ∃ w1 w2, fcF (qF (LO D (pA K f D g) (cM K) (cH K) (cM K - (i + 1))) (pA K f D g i) (setF D (pA K f D g) (cM K) (cH K) i)) (cH K) = some (w1, w2) := by
              cases ef : fcF (qF (LO D (pA K f D g) (cM K) (cH K) (cM K - (i + 1))) (pA K f D g i) (setF D (pA K f D g) (cM K) (cH K) i)) (cH K) with
              | none => rw [ef] at s1; exact absurd rfl s1
              | some w => exact ⟨w.1, w.2, rfl⟩
            have eg : gfO D (pA K f D g) (cM K) (cH K) (setF D (pA K f D g) (cM K) (cH K) i) i = some w1 := by unfold gfO; rw [if_pos cl, ef]; rfl
            rw [eg] at es
            replace es : setF D (pA K f D g) (cM K) (cH K) (i + 1) = setF D (pA K f D g) (cM K) (cH K) i + 2 ^ w1 := es
            obtain ⟨x1, x2, x3, x4⟩ := fc_some (cH K) w1 w2 ef
            have hrow : I3 95 (256 * i + setF D (pA K f D g) (cM K) (cH K) i) = nI w2 := by rw [hR3 i (by omega) _ s2, LO_m hi, if_pos cl, ef]; rfl
            have cbw : (nI (setF D (pA K f D g) (cM K) (cH K) i) >>> (nI w1 &&& 31)) &&& 1 = 0 := by
              unfold qF at x2
              split at x2
              · assumption
              · cases x2
            have o8 := or8 _ (by omega) w1 (by omega) cbw
            have w9 : w2 ≤ 699 := by
              unfold qF at x2
              rw [if_pos cbw] at x2
              cases ex : LO D (pA K f D g) (cM K) (cH K) (cM K - (i + 1)) (setF D (pA K f D g) (cM K) (cH K) i + 2 ^ w1) with
              | none => rw [ex] at x2; cases x2
              | some u =>
                rw [ex] at x2
                have x3 : pA K f D g i w1 + u = w2 := Option.some.inj x2
                have := LO_600 hfR h6 ex
                have := (pA_ok (K := K) hfR D g i w1).2
                omega
            have LL : ∀ r, r ≤ cH K → ∀ x I6, x = nI r - 1 → (∀ a, a ≠ 96 → I6 a = I3 a) → (∀ m, m < i → I6 96 m = oI (gfO D (pA K f D g) (cM K) (cH K) (setF D (pA K f D g) (cM K) (cH K) m) m)) → (r ≤ w1 → I6 96 i = nI w1) → V G mX11_findHatted (d + 10) 0 0 0 0 81 [(4, .int x), (3, .int (nI i)), (2, .int (nI (setF D (pA K f D g) (cM K) (cH K) i))), (0, rf G 69), (1, .int (nI g))] [] 103 I6 R J Q := by
              intro r
              induction r with
              | zero =>
                intro _ x I6 hx hE6 hG6 hw6
                have hx0 : x < 0 := by rw [hx]; decide
                have hw := hw6 (Nat.zero_le _)
                refine V_iload 83 0 rfl dX11_findHatted_81 rfl ?_
                refine V_if_lt 192 86 rfl dX11_findHatted_83 rfl (fun c83 => ?_) (fun c83 => absurd hx0 c83)
                refine V_aload_n 193 3 rfl _ rfl rfl dX11_findHatted_192 rfl ?_
                refine V_getR 196 69 11 49 96 (hRM 49) flX11_95 rfl rfl rfl (by decide) dX11_findHatted_193 rfl ?_
                refine V_iload_n 197 1 rfl rfl dX11_findHatted_196 rfl ?_
                refine V_ialdN 198 96 6 i (nI w1) hw (by omega) (by decide) rfl (by decide) dX11_findHatted_197 rfl ?_
                refine V_iconst 199 (-1) rfl dX11_findHatted_198 rfl ?_
                refine V_icmp_eq 213 202 rfl dX11_findHatted_199 rfl (fun c199 => absurd c199 (nI_ne (by omega))) (fun c199 => ?_)
                refine V_iload_n 203 2 rfl rfl dX11_findHatted_202 rfl ?_
                refine V_iconst 204 (1) rfl dX11_findHatted_203 rfl ?_
                refine V_aload_n 205 3 rfl _ rfl rfl dX11_findHatted_204 rfl ?_
                refine V_getR 208 69 11 49 96 (hRM 49) flX11_95 rfl rfl rfl (by decide) dX11_findHatted_205 rfl ?_
                refine V_iload_n 209 1 rfl rfl dX11_findHatted_208 rfl ?_
                refine V_ialdN 210 96 6 i (nI w1) hw (by omega) (by decide) rfl (by decide) dX11_findHatted_209 rfl ?_
                refine V_ishl 211 dX11_findHatted_210 rfl ?_
                refine V_ior 212 dX11_findHatted_211 rfl ?_
                refine V_rw (show _ = nI (setF D (pA K f D g) (cM K) (cH K) (i + 1)) from by rw [es]; exact o8.1) ?_
                refine V_istore_n 213 [(2, .int (nI (setF D (pA K f D g) (cM K) (cH K) (i + 1)))), (4, .int x), (3, .int (nI i)), (0, rf G 69), (1, .int (nI g))] (by decide) rfl rfl dX11_findHatted_212 rfl ?_
                refine V_iinc 216 2 rfl (nI (i + 1)) [(3, .int (nI (i + 1))), (2, .int (nI (setF D (pA K f D g) (cM K) (cH K) (i + 1)))), (4, .int x), (0, rf G 69), (1, .int (nI g))] (nI_1 _) (by decide) rfl dX11_findHatted_213 rfl ?_
                refine V_goto 58 rfl dX11_findHatted_216 ?_
                refine V_lv [0, 1, 3, 4] rfl (ih I6 hE6 (fun m hm => ?_))
                by_cases e : m = i
                · subst e; rw [eg]; exact hw
                · exact hG6 m (by omega)
              | succ h ihh =>
                intro hr x I6 hx hE6 hG6 hw6
                have hx1 : x = nI h := by rw [hx]; exact nI_sub (a := h + 1) (b := 1) (by omega)
                subst hx1
                have hh : h < cH K := by omega
                have ed : nI h + Int32.ofInt (-1) = nI h - 1 := by rw [Int32.sub_eq_add_neg]; rfl
                have pl := (pA_ok (K := K) hfR D g i h).2
                have hF6 := f96 I6 hE6
                have keep : ¬ h = w1 → V G mX11_findHatted (d + 10) 0 0 0 0 81 [(4, .int (nI h - 1)), (3, .int (nI i)), (2, .int (nI (setF D (pA K f D g) (cM K) (cH K) i))), (0, rf G 69), (1, .int (nI g))] [] 103 I6 R J Q := fun e => ihh (by omega) _ I6 rfl hE6 hG6 (fun q => hw6 (by omega))
                by_cases cb : (nI (setF D (pA K f D g) (cM K) (cH K) i) >>> (nI h &&& 31)) &&& 1 = 0
                · have l8 := lt8c (cH K) (by omega) _ (by omega) s2 h hh cb
                  have n1 : ¬ (nI (setF D (pA K f D g) (cM K) (cH K) i) >>> (nI h &&& 31)) &&& 1 = 1 := by rw [cb]; decide
                  cases eo : LO D (pA K f D g) (cM K) (cH K) (cM K - (i + 1)) (setF D (pA K f D g) (cM K) (cH K) i + 2 ^ h) with
                  | none =>
                    have hk : ¬ h = w1 := fun e => by rw [← e] at x2; unfold qF at x2; rw [if_pos cb, eo] at x2; cases x2
                    refine V_iload 83 0 rfl dX11_findHatted_81 rfl ?_
                    refine V_if_lt 192 86 rfl dX11_findHatted_83 rfl (fun c83 => absurd c83 (Int32.not_lt.mpr (nI_le (a := 0) (Nat.zero_le h) (by omega)))) (fun c83 => ?_)
                    refine V_aload_n 87 3 rfl _ rfl rfl dX11_findHatted_86 rfl ?_
                    refine V_getR 90 69 11 40 88 (hRM 40) flX11_71 rfl rfl rfl (by decide) dX11_findHatted_87 rfl ?_
                    refine V_bipush 92 (30) rfl dX11_findHatted_90 rfl ?_
                    refine V_iload_n 93 1 rfl rfl dX11_findHatted_92 rfl ?_
                    refine V_iadd 94 dX11_findHatted_93 rfl ?_
                    refine V_rw (nI_add 30 i) ?_
                    refine V_ialdN 95 88 51 (30 + i) (D (30 + i)) (by rw [hE6 88 (by decide)]; exact hN3 (30 + i) (by omega)) (by omega) (by decide) rfl (by decide) dX11_findHatted_94 rfl ?_
                    refine V_iconst 96 (1) rfl dX11_findHatted_95 rfl ?_
                    refine V_icmp_ne 192 99 rfl dX11_findHatted_96 rfl (fun c96 => absurd cl c96) (fun c96 => ?_)
                    refine V_aload_n 100 3 rfl _ rfl rfl dX11_findHatted_99 rfl ?_
                    refine V_getR 103 69 11 48 95 (hRM 48) flX11_92 rfl rfl rfl (by decide) dX11_findHatted_100 rfl ?_
                    refine V_iconst 104 (0) rfl dX11_findHatted_103 rfl ?_
                    refine V_ialdN 105 95 1792 0 (nI v0) (by rw [hE6 95 (by decide)]; exact h950) (by omega) (by decide) rfl (by decide) dX11_findHatted_104 rfl ?_
                    refine V_iconst 106 (-1) rfl dX11_findHatted_105 rfl ?_
                    refine V_icmp_eq 192 109 rfl dX11_findHatted_106 rfl (fun c106 => absurd c106 (nI_ne (by omega))) (fun c106 => ?_)
                    refine V_iload_n 110 2 rfl rfl dX11_findHatted_109 rfl ?_
                    refine V_iload 112 0 rfl dX11_findHatted_110 rfl ?_
                    refine V_ishr 113 dX11_findHatted_112 rfl ?_
                    refine V_iconst 114 (1) rfl dX11_findHatted_113 rfl ?_
                    refine V_iand 115 dX11_findHatted_114 rfl ?_
                    refine V_iconst 116 (1) rfl dX11_findHatted_115 rfl ?_
                    refine V_icmp_ne 123 119 rfl dX11_findHatted_116 rfl (fun c116 => ?_) (fun c116 => absurd c116 n1)
                    refine V_aload_n 124 3 rfl _ rfl rfl dX11_findHatted_123 rfl ?_
                    refine V_getR 127 69 11 48 95 (hRM 48) flX11_92 rfl rfl rfl (by decide) dX11_findHatted_124 rfl ?_
                    refine V_iload_n 128 1 rfl rfl dX11_findHatted_127 rfl ?_
                    refine V_iconst 129 (1) rfl dX11_findHatted_128 rfl ?_
                    refine V_iadd 130 dX11_findHatted_129 rfl ?_
                    refine V_rw (nI_add i 1) ?_
                    refine V_bipush 132 (8) rfl dX11_findHatted_130 rfl ?_
                    refine V_ishl 133 dX11_findHatted_132 rfl ?_
                    refine V_iload_n 134 2 rfl rfl dX11_findHatted_133 rfl ?_
                    refine V_ior 135 dX11_findHatted_134 rfl ?_
                    refine V_rw (show _ = nI (256 * (i + 1) + setF D (pA K f D g) (cM K) (cH K) i) from ix8 (i + 1) (by omega) _ (by omega)) ?_
                    refine V_iconst 136 (1) rfl dX11_findHatted_135 rfl ?_
                    refine V_iload 138 0 rfl dX11_findHatted_136 rfl ?_
                    refine V_ishl 139 dX11_findHatted_138 rfl ?_
                    refine V_ior 140 dX11_findHatted_139 rfl ?_
                    refine V_rw (show _ = nI (256 * (i + 1) + (setF D (pA K f D g) (cM K) (cH K) i + 2 ^ h)) from ix8h (by omega) (by omega) (by omega) cb) ?_
                    refine V_ialdN 141 95 1792 (256 * (i + 1) + (setF D (pA K f D g) (cM K) (cH K) i + 2 ^ h)) (-1) (by rw [hE6 95 (by decide), hR3 (i + 1) (by omega) _ l8, eo]; rfl) (by omega) (by decide) rfl (by decide) dX11_findHatted_140 rfl ?_
                    refine V_istore 143 [(5, .int (-1)), (4, .int (nI h)), (3, .int (nI i)), (2, .int (nI (setF D (pA K f D g) (cM K) (cH K) i))), (0, rf G 69), (1, .int (nI g))] (by decide) rfl dX11_findHatted_141 rfl ?_
                    refine V_iload 145 0 rfl dX11_findHatted_143 rfl ?_
                    refine V_iconst 146 (-1) rfl dX11_findHatted_145 rfl ?_
                    refine V_icmp_eq 186 149 rfl dX11_findHatted_146 rfl (fun c146 => ?_) (fun c146 => absurd rfl c146)
                    refine V_iinc 189 1 rfl (nI h - 1) [(4, .int (nI h - 1)), (5, .int (-1)), (3, .int (nI i)), (2, .int (nI (setF D (pA K f D g) (cM K) (cH K) i))), (0, rf G 69), (1, .int (nI g))] ed (by decide) rfl dX11_findHatted_186 rfl ?_
                    refine V_goto 81 rfl dX11_findHatted_189 ?_
                    exact V_lv [0, 2, 3, 4, 5] rfl (keep hk)
                  | some v =>
                    have v6 := LO_600 hfR h6 eo
                    have eq : qF (LO D (pA K f D g) (cM K) (cH K) (cM K - (i + 1))) (pA K f D g i) (setF D (pA K f D g) (cM K) (cH K) i) h = some (pA K f D g i h + v) := by unfold qF; rw [if_pos cb, eo]; rfl
                    by_cases c3 : pA K f D g i h + v = w2
                    · refine V_iload 83 0 rfl dX11_findHatted_81 rfl ?_
                      refine V_if_lt 192 86 rfl dX11_findHatted_83 rfl (fun c83 => absurd c83 (Int32.not_lt.mpr (nI_le (a := 0) (Nat.zero_le h) (by omega)))) (fun c83 => ?_)
                      refine V_aload_n 87 3 rfl _ rfl rfl dX11_findHatted_86 rfl ?_
                      refine V_getR 90 69 11 40 88 (hRM 40) flX11_71 rfl rfl rfl (by decide) dX11_findHatted_87 rfl ?_
                      refine V_bipush 92 (30) rfl dX11_findHatted_90 rfl ?_
                      refine V_iload_n 93 1 rfl rfl dX11_findHatted_92 rfl ?_
                      refine V_iadd 94 dX11_findHatted_93 rfl ?_
                      refine V_rw (nI_add 30 i) ?_
                      refine V_ialdN 95 88 51 (30 + i) (D (30 + i)) (by rw [hE6 88 (by decide)]; exact hN3 (30 + i) (by omega)) (by omega) (by decide) rfl (by decide) dX11_findHatted_94 rfl ?_
                      refine V_iconst 96 (1) rfl dX11_findHatted_95 rfl ?_
                      refine V_icmp_ne 192 99 rfl dX11_findHatted_96 rfl (fun c96 => absurd cl c96) (fun c96 => ?_)
                      refine V_aload_n 100 3 rfl _ rfl rfl dX11_findHatted_99 rfl ?_
                      refine V_getR 103 69 11 48 95 (hRM 48) flX11_92 rfl rfl rfl (by decide) dX11_findHatted_100 rfl ?_
                      refine V_iconst 104 (0) rfl dX11_findHatted_103 rfl ?_
                      refine V_ialdN 105 95 1792 0 (nI v0) (by rw [hE6 95 (by decide)]; exact h950) (by omega) (by decide) rfl (by decide) dX11_findHatted_104 rfl ?_
                      refine V_iconst 106 (-1) rfl dX11_findHatted_105 rfl ?_
                      refine V_icmp_eq 192 109 rfl dX11_findHatted_106 rfl (fun c106 => absurd c106 (nI_ne (by omega))) (fun c106 => ?_)
                      refine V_iload_n 110 2 rfl rfl dX11_findHatted_109 rfl ?_
                      refine V_iload 112 0 rfl dX11_findHatted_110 rfl ?_
                      refine V_ishr 113 dX11_findHatted_112 rfl ?_
                      refine V_iconst 114 (1) rfl dX11_findHatted_113 rfl ?_
                      refine V_iand 115 dX11_findHatted_114 rfl ?_
                      refine V_iconst 116 (1) rfl dX11_findHatted_115 rfl ?_
                      refine V_icmp_ne 123 119 rfl dX11_findHatted_116 rfl (fun c116 => ?_) (fun c116 => absurd c116 n1)
                      refine V_aload_n 124 3 rfl _ rfl rfl dX11_findHatted_123 rfl ?_
                      refine V_getR 127 69 11 48 95 (hRM 48) flX11_92 rfl rfl rfl (by decide) dX11_findHatted_124 rfl ?_
                      refine V_iload_n 128 1 rfl rfl dX11_findHatted_127 rfl ?_
                      refine V_iconst 129 (1) rfl dX11_findHatted_128 rfl ?_
                      refine V_iadd 130 dX11_findHatted_129 rfl ?_
                      refine V_rw (nI_add i 1) ?_
                      refine V_bipush 132 (8) rfl dX11_findHatted_130 rfl ?_
                      refine V_ishl 133 dX11_findHatted_132 rfl ?_
                      refine V_iload_n 134 2 rfl rfl dX11_findHatted_133 rfl ?_
                      refine V_ior 135 dX11_findHatted_134 rfl ?_
                      refine V_rw (show _ = nI (256 * (i + 1) + setF D (pA K f D g) (cM K) (cH K) i) from ix8 (i + 1) (by omega) _ (by omega)) ?_
                      refine V_iconst 136 (1) rfl dX11_findHatted_135 rfl ?_
                      refine V_iload 138 0 rfl dX11_findHatted_136 rfl ?_
                      refine V_ishl 139 dX11_findHatted_138 rfl ?_
                      refine V_ior 140 dX11_findHatted_139 rfl ?_
                      refine V_rw (show _ = nI (256 * (i + 1) + (setF D (pA K f D g) (cM K) (cH K) i + 2 ^ h)) from ix8h (by omega) (by omega) (by omega) cb) ?_
                      refine V_ialdN 141 95 1792 (256 * (i + 1) + (setF D (pA K f D g) (cM K) (cH K) i + 2 ^ h)) (nI v) (by rw [hE6 95 (by decide), hR3 (i + 1) (by omega) _ l8, eo]; rfl) (by omega) (by decide) rfl (by decide) dX11_findHatted_140 rfl ?_
                      refine V_istore 143 [(5, .int (nI v)), (4, .int (nI h)), (3, .int (nI i)), (2, .int (nI (setF D (pA K f D g) (cM K) (cH K) i))), (0, rf G 69), (1, .int (nI g))] (by decide) rfl dX11_findHatted_141 rfl ?_
                      refine V_iload 145 0 rfl dX11_findHatted_143 rfl ?_
                      refine V_iconst 146 (-1) rfl dX11_findHatted_145 rfl ?_
                      refine V_icmp_eq 186 149 rfl dX11_findHatted_146 rfl (fun c146 => absurd c146 (nI_ne (by omega))) (fun c146 => ?_)
                      refine V_aload_n 150 4 rfl _ rfl rfl dX11_findHatted_149 rfl ?_
                      refine V_getR 153 69 11 50 97 (hRM 50) flX11_98 rfl rfl rfl (by decide) dX11_findHatted_150 rfl ?_
                      refine V_bipush 155 (8) rfl dX11_findHatted_153 rfl ?_
                      refine V_iload_n 156 2 rfl rfl dX11_findHatted_155 rfl ?_
                      refine V_imul 157 dX11_findHatted_156 rfl ?_
                      refine V_rw (pk_mul 8 i) ?_
                      refine V_iload 159 1 rfl dX11_findHatted_157 rfl ?_
                      refine V_iadd 160 dX11_findHatted_159 rfl ?_
                      refine V_rw (nI_add (8 * i) h) ?_
                      refine V_ialdN 161 97 48 ((8 * i) + h) (nI (pA K f D g i h)) (by rw [hE6 97 (by decide)]; exact hC3 i hi cl h hh) (by omega) (by decide) rfl (by decide) dX11_findHatted_160 rfl ?_
                      refine V_iload 163 0 rfl dX11_findHatted_161 rfl ?_
                      refine V_iadd 164 dX11_findHatted_163 rfl ?_
                      refine V_rw (nI_add (pA K f D g i h) v) ?_
                      refine V_aload_n 165 4 rfl _ rfl rfl dX11_findHatted_164 rfl ?_
                      refine V_getR 168 69 11 48 95 (hRM 48) flX11_92 rfl rfl rfl (by decide) dX11_findHatted_165 rfl ?_
                      refine V_iload_n 169 2 rfl rfl dX11_findHatted_168 rfl ?_
                      refine V_bipush 171 (8) rfl dX11_findHatted_169 rfl ?_
                      refine V_ishl 172 dX11_findHatted_171 rfl ?_
                      refine V_iload_n 173 3 rfl rfl dX11_findHatted_172 rfl ?_
                      refine V_ior 174 dX11_findHatted_173 rfl ?_
                      refine V_rw (show _ = nI (256 * i + setF D (pA K f D g) (cM K) (cH K) i) from ix8 i (by omega) _ (by omega)) ?_
                      refine V_ialdN 175 95 1792 (256 * i + setF D (pA K f D g) (cM K) (cH K) i) (nI w2) (by rw [hE6 95 (by decide)]; exact hrow) (by omega) (by decide) rfl (by decide) dX11_findHatted_174 rfl ?_
                      refine V_icmp_ne 186 178 rfl dX11_findHatted_175 rfl (fun c175 => absurd (by rw [c3]) c175) (fun c175 => ?_)
                      refine V_aload_n 179 4 rfl _ rfl rfl dX11_findHatted_178 rfl ?_
                      refine V_getR 182 69 11 49 96 (hRM 49) flX11_95 rfl rfl rfl (by decide) dX11_findHatted_179 rfl ?_
                      refine V_iload_n 183 2 rfl rfl dX11_findHatted_182 rfl ?_
                      refine V_iload 185 1 rfl dX11_findHatted_183 rfl ?_
                      refine V_iastN 186 96 6 i (by omega) (by decide) rfl (by decide) dX11_findHatted_185 rfl ?_
                      refine V_iinc 189 1 rfl (nI h - 1) [(4, .int (nI h - 1)), (5, .int (nI v)), (3, .int (nI i)), (2, .int (nI (setF D (pA K f D g) (cM K) (cH K) i))), (0, rf G 69), (1, .int (nI g))] ed (by decide) rfl dX11_findHatted_186 rfl ?_
                      refine V_goto 81 rfl dX11_findHatted_189 ?_
                      refine V_lv [0, 2, 3, 4, 5] rfl (ihh (by omega) _ _ rfl (fun a q => by rw [up2_n _ _ _ q]; exact hE6 a q) (fun m hm => by rw [up2_s, upd_n (by omega)]; exact hG6 m hm) (fun q => ?_))
                      have e : h = w1 := by
                        rcases Nat.lt_or_ge h w1 with c | c
                        · have := x3 h _ c eq; omega
                        · omega
                      rw [up2_s, ← e]; exact upd_s
                    · refine V_iload 83 0 rfl dX11_findHatted_81 rfl ?_
                      refine V_if_lt 192 86 rfl dX11_findHatted_83 rfl (fun c83 => absurd c83 (Int32.not_lt.mpr (nI_le (a := 0) (Nat.zero_le h) (by omega)))) (fun c83 => ?_)
                      refine V_aload_n 87 3 rfl _ rfl rfl dX11_findHatted_86 rfl ?_
                      refine V_getR 90 69 11 40 88 (hRM 40) flX11_71 rfl rfl rfl (by decide) dX11_findHatted_87 rfl ?_
                      refine V_bipush 92 (30) rfl dX11_findHatted_90 rfl ?_
                      refine V_iload_n 93 1 rfl rfl dX11_findHatted_92 rfl ?_
                      refine V_iadd 94 dX11_findHatted_93 rfl ?_
                      refine V_rw (nI_add 30 i) ?_
                      refine V_ialdN 95 88 51 (30 + i) (D (30 + i)) (by rw [hE6 88 (by decide)]; exact hN3 (30 + i) (by omega)) (by omega) (by decide) rfl (by decide) dX11_findHatted_94 rfl ?_
                      refine V_iconst 96 (1) rfl dX11_findHatted_95 rfl ?_
                      refine V_icmp_ne 192 99 rfl dX11_findHatted_96 rfl (fun c96 => absurd cl c96) (fun c96 => ?_)
                      refine V_aload_n 100 3 rfl _ rfl rfl dX11_findHatted_99 rfl ?_
                      refine V_getR 103 69 11 48 95 (hRM 48) flX11_92 rfl rfl rfl (by decide) dX11_findHatted_100 rfl ?_
                      refine V_iconst 104 (0) rfl dX11_findHatted_103 rfl ?_
                      refine V_ialdN 105 95 1792 0 (nI v0) (by rw [hE6 95 (by decide)]; exact h950) (by omega) (by decide) rfl (by decide) dX11_findHatted_104 rfl ?_
                      refine V_iconst 106 (-1) rfl dX11_findHatted_105 rfl ?_
                      refine V_icmp_eq 192 109 rfl dX11_findHatted_106 rfl (fun c106 => absurd c106 (nI_ne (by omega))) (fun c106 => ?_)
                      refine V_iload_n 110 2 rfl rfl dX11_findHatted_109 rfl ?_
                      refine V_iload 112 0 rfl dX11_findHatted_110 rfl ?_
                      refine V_ishr 113 dX11_findHatted_112 rfl ?_
                      refine V_iconst 114 (1) rfl dX11_findHatted_113 rfl ?_
                      refine V_iand 115 dX11_findHatted_114 rfl ?_
                      refine V_iconst 116 (1) rfl dX11_findHatted_115 rfl ?_
                      refine V_icmp_ne 123 119 rfl dX11_findHatted_116 rfl (fun c116 => ?_) (fun c116 => absurd c116 n1)
                      refine V_aload_n 124 3 rfl _ rfl rfl dX11_findHatted_123 rfl ?_
                      refine V_getR 127 69 11 48 95 (hRM 48) flX11_92 rfl rfl rfl (by decide) dX11_findHatted_124 rfl ?_
                      refine V_iload_n 128 1 rfl rfl dX11_findHatted_127 rfl ?_
                      refine V_iconst 129 (1) rfl dX11_findHatted_128 rfl ?_
                      refine V_iadd 130 dX11_findHatted_129 rfl ?_
                      refine V_rw (nI_add i 1) ?_
                      refine V_bipush 132 (8) rfl dX11_findHatted_130 rfl ?_
                      refine V_ishl 133 dX11_findHatted_132 rfl ?_
                      refine V_iload_n 134 2 rfl rfl dX11_findHatted_133 rfl ?_
                      refine V_ior 135 dX11_findHatted_134 rfl ?_
                      refine V_rw (show _ = nI (256 * (i + 1) + setF D (pA K f D g) (cM K) (cH K) i) from ix8 (i + 1) (by omega) _ (by omega)) ?_
                      refine V_iconst 136 (1) rfl dX11_findHatted_135 rfl ?_
                      refine V_iload 138 0 rfl dX11_findHatted_136 rfl ?_
                      refine V_ishl 139 dX11_findHatted_138 rfl ?_
                      refine V_ior 140 dX11_findHatted_139 rfl ?_
                      refine V_rw (show _ = nI (256 * (i + 1) + (setF D (pA K f D g) (cM K) (cH K) i + 2 ^ h)) from ix8h (by omega) (by omega) (by omega) cb) ?_
                      refine V_ialdN 141 95 1792 (256 * (i + 1) + (setF D (pA K f D g) (cM K) (cH K) i + 2 ^ h)) (nI v) (by rw [hE6 95 (by decide), hR3 (i + 1) (by omega) _ l8, eo]; rfl) (by omega) (by decide) rfl (by decide) dX11_findHatted_140 rfl ?_
                      refine V_istore 143 [(5, .int (nI v)), (4, .int (nI h)), (3, .int (nI i)), (2, .int (nI (setF D (pA K f D g) (cM K) (cH K) i))), (0, rf G 69), (1, .int (nI g))] (by decide) rfl dX11_findHatted_141 rfl ?_
                      refine V_iload 145 0 rfl dX11_findHatted_143 rfl ?_
                      refine V_iconst 146 (-1) rfl dX11_findHatted_145 rfl ?_
                      refine V_icmp_eq 186 149 rfl dX11_findHatted_146 rfl (fun c146 => absurd c146 (nI_ne (by omega))) (fun c146 => ?_)
                      refine V_aload_n 150 4 rfl _ rfl rfl dX11_findHatted_149 rfl ?_
                      refine V_getR 153 69 11 50 97 (hRM 50) flX11_98 rfl rfl rfl (by decide) dX11_findHatted_150 rfl ?_
                      refine V_bipush 155 (8) rfl dX11_findHatted_153 rfl ?_
                      refine V_iload_n 156 2 rfl rfl dX11_findHatted_155 rfl ?_
                      refine V_imul 157 dX11_findHatted_156 rfl ?_
                      refine V_rw (pk_mul 8 i) ?_
                      refine V_iload 159 1 rfl dX11_findHatted_157 rfl ?_
                      refine V_iadd 160 dX11_findHatted_159 rfl ?_
                      refine V_rw (nI_add (8 * i) h) ?_
                      refine V_ialdN 161 97 48 ((8 * i) + h) (nI (pA K f D g i h)) (by rw [hE6 97 (by decide)]; exact hC3 i hi cl h hh) (by omega) (by decide) rfl (by decide) dX11_findHatted_160 rfl ?_
                      refine V_iload 163 0 rfl dX11_findHatted_161 rfl ?_
                      refine V_iadd 164 dX11_findHatted_163 rfl ?_
                      refine V_rw (nI_add (pA K f D g i h) v) ?_
                      refine V_aload_n 165 4 rfl _ rfl rfl dX11_findHatted_164 rfl ?_
                      refine V_getR 168 69 11 48 95 (hRM 48) flX11_92 rfl rfl rfl (by decide) dX11_findHatted_165 rfl ?_
                      refine V_iload_n 169 2 rfl rfl dX11_findHatted_168 rfl ?_
                      refine V_bipush 171 (8) rfl dX11_findHatted_169 rfl ?_
                      refine V_ishl 172 dX11_findHatted_171 rfl ?_
                      refine V_iload_n 173 3 rfl rfl dX11_findHatted_172 rfl ?_
                      refine V_ior 174 dX11_findHatted_173 rfl ?_
                      refine V_rw (show _ = nI (256 * i + setF D (pA K f D g) (cM K) (cH K) i) from ix8 i (by omega) _ (by omega)) ?_
                      refine V_ialdN 175 95 1792 (256 * i + setF D (pA K f D g) (cM K) (cH K) i) (nI w2) (by rw [hE6 95 (by decide)]; exact hrow) (by omega) (by decide) rfl (by decide) dX11_findHatted_174 rfl ?_
                      refine V_icmp_ne 186 178 rfl dX11_findHatted_175 rfl (fun c175 => ?_) (fun c175 => absurd ((nI_eq (by omega) (by omega)).mp c175) c3)
                      refine V_iinc 189 1 rfl (nI h - 1) [(4, .int (nI h - 1)), (5, .int (nI v)), (3, .int (nI i)), (2, .int (nI (setF D (pA K f D g) (cM K) (cH K) i))), (0, rf G 69), (1, .int (nI g))] ed (by decide) rfl dX11_findHatted_186 rfl ?_
                      refine V_goto 81 rfl dX11_findHatted_189 ?_
                      exact V_lv [0, 2, 3, 4, 5] rfl (keep (fun e => by rw [e] at eq c3; rw [eq] at x2; exact c3 (Option.some.inj x2)))
                · refine V_iload 83 0 rfl dX11_findHatted_81 rfl ?_
                  refine V_if_lt 192 86 rfl dX11_findHatted_83 rfl (fun c83 => absurd c83 (Int32.not_lt.mpr (nI_le (a := 0) (Nat.zero_le h) (by omega)))) (fun c83 => ?_)
                  refine V_aload_n 87 3 rfl _ rfl rfl dX11_findHatted_86 rfl ?_
                  refine V_getR 90 69 11 40 88 (hRM 40) flX11_71 rfl rfl rfl (by decide) dX11_findHatted_87 rfl ?_
                  refine V_bipush 92 (30) rfl dX11_findHatted_90 rfl ?_
                  refine V_iload_n 93 1 rfl rfl dX11_findHatted_92 rfl ?_
                  refine V_iadd 94 dX11_findHatted_93 rfl ?_
                  refine V_rw (nI_add 30 i) ?_
                  refine V_ialdN 95 88 51 (30 + i) (D (30 + i)) (by rw [hE6 88 (by decide)]; exact hN3 (30 + i) (by omega)) (by omega) (by decide) rfl (by decide) dX11_findHatted_94 rfl ?_
                  refine V_iconst 96 (1) rfl dX11_findHatted_95 rfl ?_
                  refine V_icmp_ne 192 99 rfl dX11_findHatted_96 rfl (fun c96 => absurd cl c96) (fun c96 => ?_)
                  refine V_aload_n 100 3 rfl _ rfl rfl dX11_findHatted_99 rfl ?_
                  refine V_getR 103 69 11 48 95 (hRM 48) flX11_92 rfl rfl rfl (by decide) dX11_findHatted_100 rfl ?_
                  refine V_iconst 104 (0) rfl dX11_findHatted_103 rfl ?_
                  refine V_ialdN 105 95 1792 0 (nI v0) (by rw [hE6 95 (by decide)]; exact h950) (by omega) (by decide) rfl (by decide) dX11_findHatted_104 rfl ?_
                  refine V_iconst 106 (-1) rfl dX11_findHatted_105 rfl ?_
                  refine V_icmp_eq 192 109 rfl dX11_findHatted_106 rfl (fun c106 => absurd c106 (nI_ne (by omega))) (fun c106 => ?_)
                  refine V_iload_n 110 2 rfl rfl dX11_findHatted_109 rfl ?_
                  refine V_iload 112 0 rfl dX11_findHatted_110 rfl ?_
                  refine V_ishr 113 dX11_findHatted_112 rfl ?_
                  refine V_iconst 114 (1) rfl dX11_findHatted_113 rfl ?_
                  refine V_iand 115 dX11_findHatted_114 rfl ?_
                  refine V_iconst 116 (1) rfl dX11_findHatted_115 rfl ?_
                  refine V_icmp_ne 123 119 rfl dX11_findHatted_116 rfl (fun c116 => absurd ((and01 (nI (setF D (pA K f D g) (cM K) (cH K) i) >>> (nI h &&& 31))).resolve_left cb) c116) (fun c116 => ?_)
                  refine V_iconst 120 (-1) rfl dX11_findHatted_119 rfl ?_
                  refine V_goto 141 rfl dX11_findHatted_120 ?_
                  refine V_istore 143 [(5, .int (-1)), (4, .int (nI h)), (3, .int (nI i)), (2, .int (nI (setF D (pA K f D g) (cM K) (cH K) i))), (0, rf G 69), (1, .int (nI g))] (by decide) rfl dX11_findHatted_141 rfl ?_
                  refine V_iload 145 0 rfl dX11_findHatted_143 rfl ?_
                  refine V_iconst 146 (-1) rfl dX11_findHatted_145 rfl ?_
                  refine V_icmp_eq 186 149 rfl dX11_findHatted_146 rfl (fun c146 => ?_) (fun c146 => absurd rfl c146)
                  refine V_iinc 189 1 rfl (nI h - 1) [(4, .int (nI h - 1)), (5, .int (-1)), (3, .int (nI i)), (2, .int (nI (setF D (pA K f D g) (cM K) (cH K) i))), (0, rf G 69), (1, .int (nI g))] ed (by decide) rfl dX11_findHatted_186 rfl ?_
                  refine V_goto 81 rfl dX11_findHatted_189 ?_
                  exact V_lv [0, 2, 3, 4, 5] rfl (keep (fun e => cb (by rw [e]; exact cbw)))
            refine V_iload_n 59 0 rfl rfl dX11_findHatted_58 rfl ?_
            refine V_aload_n 60 2 rfl _ rfl rfl dX11_findHatted_59 rfl ?_
            refine V_getI 63 69 11 23 (nI (cM K)) (Fr6.K hF4 hK).2.2.1 flX11_181 rfl rfl rfl (by decide) dX11_findHatted_60 rfl ?_
            refine V_icmp_ge 219 66 rfl dX11_findHatted_63 rfl (fun c63 => absurd c63 (nI_ge hi (by omega))) (fun c63 => ?_)
            refine V_aload_n 67 2 rfl _ rfl rfl dX11_findHatted_66 rfl ?_
            refine V_getR 70 69 11 49 96 (hRM 49) flX11_95 rfl rfl rfl (by decide) dX11_findHatted_67 rfl ?_
            refine V_iload_n 71 0 rfl rfl dX11_findHatted_70 rfl ?_
            refine V_iconst 72 (-1) rfl dX11_findHatted_71 rfl ?_
            refine V_iastN 73 96 6 i (by omega) (by decide) rfl (by decide) dX11_findHatted_72 rfl ?_
            rw [← eI5]
            refine V_aload_n 74 2 rfl _ rfl rfl dX11_findHatted_73 rfl ?_
            refine V_getI 77 69 11 21 (nI (cH K)) (Fr6.K hF5 hK).1 flX11_175 rfl rfl rfl (by decide) dX11_findHatted_74 rfl ?_
            refine V_iconst 78 (1) rfl dX11_findHatted_77 rfl ?_
            refine V_isub 79 dX11_findHatted_78 rfl ?_
            refine V_istore 81 [(4, .int ((nI (cH K)) - 1)), (3, .int (nI i)), (2, .int (nI (setF D (pA K f D g) (cM K) (cH K) i))), (0, rf G 69), (1, .int (nI g))] (by decide) rfl dX11_findHatted_79 rfl ?_
            exact V_lv [0, 1, 2, 3, 4] rfl (LL (cH K) (Nat.le_refl _) _ I5 rfl hE5 hG5 (fun q => absurd x1 (by omega)))
          · have eg : gfO D (pA K f D g) (cM K) (cH K) (setF D (pA K f D g) (cM K) (cH K) i) i = none := if_neg cl
            rw [eg] at es
            replace es : setF D (pA K f D g) (cM K) (cH K) (i + 1) = setF D (pA K f D g) (cM K) (cH K) i := es
            refine V_iload_n 59 0 rfl rfl dX11_findHatted_58 rfl ?_
            refine V_aload_n 60 2 rfl _ rfl rfl dX11_findHatted_59 rfl ?_
            refine V_getI 63 69 11 23 (nI (cM K)) (Fr6.K hF4 hK).2.2.1 flX11_181 rfl rfl rfl (by decide) dX11_findHatted_60 rfl ?_
            refine V_icmp_ge 219 66 rfl dX11_findHatted_63 rfl (fun c63 => absurd c63 (nI_ge hi (by omega))) (fun c63 => ?_)
            refine V_aload_n 67 2 rfl _ rfl rfl dX11_findHatted_66 rfl ?_
            refine V_getR 70 69 11 49 96 (hRM 49) flX11_95 rfl rfl rfl (by decide) dX11_findHatted_67 rfl ?_
            refine V_iload_n 71 0 rfl rfl dX11_findHatted_70 rfl ?_
            refine V_iconst 72 (-1) rfl dX11_findHatted_71 rfl ?_
            refine V_iastN 73 96 6 i (by omega) (by decide) rfl (by decide) dX11_findHatted_72 rfl ?_
            rw [← eI5]
            refine V_aload_n 74 2 rfl _ rfl rfl dX11_findHatted_73 rfl ?_
            refine V_getI 77 69 11 21 (nI (cH K)) (Fr6.K hF5 hK).1 flX11_175 rfl rfl rfl (by decide) dX11_findHatted_74 rfl ?_
            refine V_iconst 78 (1) rfl dX11_findHatted_77 rfl ?_
            refine V_isub 79 dX11_findHatted_78 rfl ?_
            refine V_istore 81 [(4, .int ((nI (cH K)) - 1)), (3, .int (nI i)), (2, .int (nI (setF D (pA K f D g) (cM K) (cH K) i))), (0, rf G 69), (1, .int (nI g))] (by decide) rfl dX11_findHatted_79 rfl ?_
            refine V_iload 83 0 rfl dX11_findHatted_81 rfl ?_
            refine V_if_lt 192 86 rfl dX11_findHatted_83 rfl (fun c83 => ?_) (fun c83 => ?_)
            · refine V_aload_n 193 3 rfl _ rfl rfl dX11_findHatted_192 rfl ?_
              refine V_getR 196 69 11 49 96 (hRM 49) flX11_95 rfl rfl rfl (by decide) dX11_findHatted_193 rfl ?_
              refine V_iload_n 197 1 rfl rfl dX11_findHatted_196 rfl ?_
              refine V_ialdN 198 96 6 i (-1) hi5 (by omega) (by decide) rfl (by decide) dX11_findHatted_197 rfl ?_
              refine V_iconst 199 (-1) rfl dX11_findHatted_198 rfl ?_
              refine V_icmp_eq 213 202 rfl dX11_findHatted_199 rfl (fun c199 => ?_) (fun c199 => absurd rfl c199)
              refine V_iinc 216 1 rfl (nI (i + 1)) [(3, .int (nI (i + 1))), (4, .int ((nI (cH K)) - 1)), (2, .int (nI (setF D (pA K f D g) (cM K) (cH K) i))), (0, rf G 69), (1, .int (nI g))] (nI_1 _) (by decide) rfl dX11_findHatted_213 rfl ?_
              refine V_goto 58 rfl dX11_findHatted_216 ?_
              rw [es] at ih
              refine V_lv [0, 2, 3, 4] rfl (ih I5 hE5 (fun m hm => ?_))
              by_cases e : m = i
              · subst e; rw [eg]; exact hi5
              · exact hG5 m (by omega)
            · refine V_aload_n 87 3 rfl _ rfl rfl dX11_findHatted_86 rfl ?_
              refine V_getR 90 69 11 40 88 (hRM 40) flX11_71 rfl rfl rfl (by decide) dX11_findHatted_87 rfl ?_
              refine V_bipush 92 (30) rfl dX11_findHatted_90 rfl ?_
              refine V_iload_n 93 1 rfl rfl dX11_findHatted_92 rfl ?_
              refine V_iadd 94 dX11_findHatted_93 rfl ?_
              refine V_rw (nI_add 30 i) ?_
              refine V_ialdN 95 88 51 (30 + i) (D (30 + i)) (by rw [hE5 88 (by decide)]; exact hN3 (30 + i) (by omega)) (by omega) (by decide) rfl (by decide) dX11_findHatted_94 rfl ?_
              refine V_iconst 96 (1) rfl dX11_findHatted_95 rfl ?_
              refine V_icmp_ne 192 99 rfl dX11_findHatted_96 rfl (fun c96 => ?_) (fun c96 => absurd c96 cl)
              refine V_aload_n 193 3 rfl _ rfl rfl dX11_findHatted_192 rfl ?_
              refine V_getR 196 69 11 49 96 (hRM 49) flX11_95 rfl rfl rfl (by decide) dX11_findHatted_193 rfl ?_
              refine V_iload_n 197 1 rfl rfl dX11_findHatted_196 rfl ?_
              refine V_ialdN 198 96 6 i (-1) hi5 (by omega) (by decide) rfl (by decide) dX11_findHatted_197 rfl ?_
              refine V_iconst 199 (-1) rfl dX11_findHatted_198 rfl ?_
              refine V_icmp_eq 213 202 rfl dX11_findHatted_199 rfl (fun c199 => ?_) (fun c199 => absurd rfl c199)
              refine V_iinc 216 1 rfl (nI (i + 1)) [(3, .int (nI (i + 1))), (4, .int ((nI (cH K)) - 1)), (2, .int (nI (setF D (pA K f D g) (cM K) (cH K) i))), (0, rf G 69), (1, .int (nI g))] (nI_1 _) (by decide) rfl dX11_findHatted_213 rfl ?_
              refine V_goto 58 rfl dX11_findHatted_216 ?_
              rw [es] at ih
              refine V_lv [0, 2, 3, 4] rfl (ih I5 hE5 (fun m hm => ?_))
              by_cases e : m = i
              · subst e; rw [eg]; exact hi5
              · exact hG5 m (by omega)
      exact L 0 (Nat.zero_le _) I3 (fun _ _ => rfl) (fun m hm => absurd hm (Nat.not_lt_zero _))
  have L : ∀ i, i ≤ cM K → ∀ I1, Fr6 I I1 → (∀ m, m < i → D (30 + m) = 1 → ∀ h, h < cH K → I1 97 (8 * m + h) = nI (pA K f D g m h)) → V G mX11_findHatted (d + 10) 0 0 0 0 2 [(2, .int (nI i)), (0, rf G 69), (1, .int (nI g))] [] 103 I1 R J Q := by
    refine loopd (cM K) (fun I1 hF1 hC1 => ?_) (fun i hi ih I1 hF1 hC1 => ?_)
    · refine V_iload_n 3 0 rfl rfl dX11_findHatted_2 rfl ?_
      refine V_aload_n 4 1 rfl _ rfl rfl dX11_findHatted_3 rfl ?_
      refine V_getI 7 69 11 23 (nI (cM K)) (Fr6.K hF1 hK).2.2.1 flX11_181 rfl rfl rfl (by decide) dX11_findHatted_4 rfl ?_
      refine V_icmp_ge 50 10 rfl dX11_findHatted_7 rfl (fun c7 => ?_) (fun c7 => absurd (Int32.le_refl _) c7)
      refine V_aload_n 51 1 rfl _ rfl rfl dX11_findHatted_50 rfl ?_
      refine V_callV (K' := 0) (S' := 0) 54 69 11 0 [] mkX11_layHatted lkX11_418 (by decide) rfl rfl (by decide) rfl (Nat.le_of_ble_eq_true rfl) (Nat.le_of_ble_eq_true rfl) (Nat.le_of_ble_eq_true rfl) (Nat.le_of_ble_eq_true rfl) rfl rfl dX11_findHatted_51 rfl (c_X11_layHatted hRM (Fr6.K hF1 hK) hW (Fr6.N hF1 hN) hfR hFl hC1 (fun I3 hE3 hR3 => ?_))
      refine Kq_v (k' := 0) (sl' := 0) rfl rfl ?_
      refine V_iconst 55 (0) rfl dX11_findHatted_54 rfl ?_
      refine V_istore_n 56 [(2, .int 0), (0, rf G 69), (1, .int (nI g))] (by decide) rfl rfl dX11_findHatted_55 rfl ?_
      refine V_iconst 57 (0) rfl dX11_findHatted_56 rfl ?_
      refine V_istore_n 58 [(3, .int 0), (2, .int 0), (0, rf G 69), (1, .int (nI g))] (by decide) rfl rfl dX11_findHatted_57 rfl ?_
      exact V_lv [0, 1, 2, 3] rfl (HG I3 (Fr6.tr hF1 (Fr6.o (b := 95) (by decide) hE3)) (fun m a b h c => by rw [hE3 97 (by decide)]; exact hC1 m a b h c) hR3)
    · have LL : ∀ h, h ≤ cH K → ∀ I2, Fr6 I I2 → (∀ m, m < i → D (30 + m) = 1 → ∀ h, h < cH K → I2 97 (8 * m + h) = nI (pA K f D g m h)) → (∀ j, j < h → D (30 + i) = 1 → I2 97 (8 * i + j) = nI (pA K f D g i j)) → V G mX11_findHatted (d + 10) 0 0 0 0 12 [(3, .int (nI h)), (2, .int (nI i)), (0, rf G 69), (1, .int (nI g))] [] 103 I2 R J Q := by
        refine loopd (cH K) (fun I2 hF2 hC2 hT2 => ?_) (fun h hh ih2 I2 hF2 hC2 hT2 => ?_)
        · refine V_iload_n 13 0 rfl rfl dX11_findHatted_12 rfl ?_
          refine V_aload_n 14 2 rfl _ rfl rfl dX11_findHatted_13 rfl ?_
          refine V_getI 17 69 11 21 (nI (cH K)) (Fr6.K hF2 hK).1 flX11_175 rfl rfl rfl (by decide) dX11_findHatted_14 rfl ?_
          refine V_icmp_ge 44 20 rfl dX11_findHatted_17 rfl (fun c17 => ?_) (fun c17 => absurd (Int32.le_refl _) c17)
          refine V_iinc 47 1 rfl (nI (i + 1)) [(2, .int (nI (i + 1))), (3, .int (nI (cH K))), (0, rf G 69), (1, .int (nI g))] (nI_1 _) (by decide) rfl dX11_findHatted_44 rfl ?_
          refine V_goto 2 rfl dX11_findHatted_47 ?_
          refine V_lv [0, 2, 3] rfl (ih I2 hF2 (fun m hm c h hh => ?_))
          by_cases e : m = i
          · subst e; exact hT2 h hh c
          · exact hC2 m (by omega) c h hh
        · refine V_iload_n 13 0 rfl rfl dX11_findHatted_12 rfl ?_
          refine V_aload_n 14 2 rfl _ rfl rfl dX11_findHatted_13 rfl ?_
          refine V_getI 17 69 11 21 (nI (cH K)) (Fr6.K hF2 hK).1 flX11_175 rfl rfl rfl (by decide) dX11_findHatted_14 rfl ?_
          refine V_icmp_ge 44 20 rfl dX11_findHatted_17 rfl (fun c17 => absurd c17 (nI_ge hh (by omega))) (fun c17 => ?_)
          refine V_aload_n 21 2 rfl _ rfl rfl dX11_findHatted_20 rfl ?_
          refine V_getR 24 69 11 50 97 (hRM 50) flX11_98 rfl rfl rfl (by decide) dX11_findHatted_21 rfl ?_
          refine V_bipush 26 (8) rfl dX11_findHatted_24 rfl ?_
          refine V_iload_n 27 1 rfl rfl dX11_findHatted_26 rfl ?_
          refine V_imul 28 dX11_findHatted_27 rfl ?_
          refine V_rw (pk_mul 8 i) ?_
          refine V_iload_n 29 0 rfl rfl dX11_findHatted_28 rfl ?_
          refine V_iadd 30 dX11_findHatted_29 rfl ?_
          refine V_rw (nI_add (8 * i) h) ?_
          refine V_aload_n 31 2 rfl _ rfl rfl dX11_findHatted_30 rfl ?_
          refine V_iload_n 32 1 rfl rfl dX11_findHatted_31 rfl ?_
          refine V_iload_n 33 0 rfl rfl dX11_findHatted_32 rfl ?_
          refine V_iload_n 34 3 rfl rfl dX11_findHatted_33 rfl ?_
          refine V_callV (K' := 0) (S' := 0) 37 69 11 3 [.int (nI i), .int (nI h), .int (nI g)] mkX11_costOf lkX11_415 (by decide) rfl rfl (by decide) rfl (Nat.le_of_ble_eq_true rfl) (Nat.le_of_ble_eq_true rfl) (Nat.le_of_ble_eq_true rfl) (Nat.le_of_ble_eq_true rfl) rfl rfl dX11_findHatted_34 rfl (c_X11_costOf hRM (Fr6.K hF2 hK) hW (Fr6.N hF2 hN) (Fr6.L hF2 hL) hfR hi hh hg (fun v I3 hF3 ev => ?_))
          refine Kq_i (k' := 0) (sl' := 0) rfl rfl ?_
          refine V_iastN 38 97 48 ((8 * i) + h) (by omega) (by decide) rfl (by decide) dX11_findHatted_37 rfl ?_
          refine V_iinc 41 0 rfl (nI (h + 1)) [(3, .int (nI (h + 1))), (2, .int (nI i)), (0, rf G 69), (1, .int (nI g))] (nI_1 _) (by decide) rfl dX11_findHatted_38 rfl ?_
          refine V_goto 12 rfl dX11_findHatted_41 ?_
          have e97 : ∀ j, I3 97 j = I2 97 j := fun j => by rw [hF3 97 (by decide) (by decide) (by decide)]
          refine V_lv [0, 1, 2, 3] rfl (ih2 _ (Fr6.tr (Fr6.tr hF2 (Fr6.f4 hF3)) (Fr6.o (b := 97) (by decide) (fun a q => up2_n _ _ _ q))) (fun m hm c h2 hh2 => by rw [up2_s, upd_n (by omega), e97]; exact hC2 m hm c h2 hh2) (fun j hj c => ?_))
          rw [up2_s]
          by_cases e : j = h
          · subst e; rw [upd_s]; exact ev c
          · rw [upd_n (by omega), e97]; exact hT2 j (by omega) c
      refine V_iload_n 3 0 rfl rfl dX11_findHatted_2 rfl ?_
      refine V_aload_n 4 1 rfl _ rfl rfl dX11_findHatted_3 rfl ?_
      refine V_getI 7 69 11 23 (nI (cM K)) (Fr6.K hF1 hK).2.2.1 flX11_181 rfl rfl rfl (by decide) dX11_findHatted_4 rfl ?_
      refine V_icmp_ge 50 10 rfl dX11_findHatted_7 rfl (fun c7 => absurd c7 (nI_ge hi (by omega))) (fun c7 => ?_)
      refine V_iconst 11 (0) rfl dX11_findHatted_10 rfl ?_
      refine V_istore_n 12 [(3, .int 0), (2, .int (nI i)), (0, rf G 69), (1, .int (nI g))] (by decide) rfl rfl dX11_findHatted_11 rfl ?_
      exact V_lv [0, 1, 2, 3] rfl (LL 0 (Nat.zero_le _) I1 hF1 hC1 (fun j q => absurd q (Nat.not_lt_zero _)))
  show V _ _ _ _ _ _ _ _ [(0, rf G 69), (1, .int (nI g))] [] _ _ _ _ _
  refine V_iconst 1 (0) rfl dX11_findHatted_0 rfl ?_
  refine V_istore_n 2 [(2, .int 0), (0, rf G 69), (1, .int (nI g))] (by decide) rfl rfl dX11_findHatted_1 rfl ?_
  exact V_lv [0, 1, 2] rfl (L 0 (Nat.zero_le _) I Fr6.rf (fun m hm => absurd hm (Nat.not_lt_zero _)))
set_option maxHeartbeats 8000000 in
theorem c_X11_hatted {G : Gx} {d : Nat} {I : FI} {R : FR} {J : FJ} {Q : Po} {K : CO} {f : DV → Int32} {D : DV} (hX : RM I R K f D) {x : Int32}  (hq : HoM I R J Q 1 (ckN x (cG K) (.inl (oI (LO D (pA K f D x.toNatClampNeg) (cM K) (cH K) (cM K) 0))))) : Cc G mX11_hatted (d + 60) 0 0 [rf G 69, .int x] 103 I R J Q := by
  obtain ⟨I0, hI0⟩ : ∃ I0, I0 = up2 I 69 0 0 := ⟨_, rfl⟩
  have hz := FrM.z hI0
  obtain ⟨hRM, hK, hW, hN, hI, hL, hfR⟩ := hX.fr hz
  have ht : I0 69 0 = 0 := hz.2.1
  have h8 := hW.1
  have hg6 := hW.2.1
  have h6 := hW.2.2.1
  have hWD := hI.1
  have hFl := hI.1.1
  have hB := hI.2.2.1
  have hSt := hI.2.1
  show V _ _ _ _ _ _ _ _ [(0, rf G 69), (1, .int x)] [] _ _ _ _ _
  refine V_aload_n 1 0 rfl _ rfl rfl dX11_hatted_0 rfl ?_
  refine V_iconst 2 (0) rfl dX11_hatted_1 rfl ?_
  refine V_putI 5 69 11 0 flX11_3 rfl rfl rfl (by decide) rfl dX11_hatted_2 rfl ?_
  rw [← hI0]
  refine V_aload_n 6 0 rfl _ rfl rfl dX11_hatted_5 rfl ?_
  refine V_iload_n 7 1 rfl rfl dX11_hatted_6 rfl ?_
  refine V_iconst 8 (1) rfl dX11_hatted_7 rfl ?_
  refine V_callV (K' := 0) (S' := 0) 11 69 11 2 [.int x, .int 1] mkX11_isGround lkX11_401 (by decide) rfl rfl (by decide) rfl (Nat.le_of_ble_eq_true rfl) (Nat.le_of_ble_eq_true rfl) (Nat.le_of_ble_eq_true rfl) (Nat.le_of_ble_eq_true rfl) rfl rfl dX11_hatted_8 rfl (c_X11_isGround (c := cG K) (cd := 1) hRM (by omega) hK.2.1 (by decide) (by decide) ht (fun i8 => ?_) (fun i8 => ?_))
  · refine Kq_i (k' := 0) (sl' := 0) rfl rfl ?_
    rw [ckN_y (by omega) i8] at hq
    obtain ⟨g, hg, rfl⟩ := i8
    refine V_if_ne 16 14 rfl dX11_hatted_11 rfl (fun c11 => ?_) (fun c11 => absurd c11 (by decide))
    refine V_aload_n 17 0 rfl _ rfl rfl dX11_hatted_16 rfl ?_
    refine V_iload_n 18 1 rfl rfl dX11_hatted_17 rfl ?_
    refine V_callV (K' := 0) (S' := 0) 21 69 11 1 [.int (nI g)] mkX11_findHatted lkX11_421 (by decide) rfl rfl (by decide) rfl (Nat.le_of_ble_eq_true rfl) (Nat.le_of_ble_eq_true rfl) (Nat.le_of_ble_eq_true rfl) (Nat.le_of_ble_eq_true rfl) rfl rfl dX11_hatted_18 rfl (c_X11_findHatted hRM hK hW hN hL hfR hFl hg (fun I1 hF1 h0 hG1 => ?_))
    refine Kq_v (k' := 0) (sl' := 0) rfl rfl ?_
    rw [nI_clamp (show g < 2 ^ 31 by omega)] at hq
    refine V_aload_n 22 0 rfl _ rfl rfl dX11_hatted_21 rfl ?_
    refine V_getR 25 69 11 48 95 (hRM 48) flX11_92 rfl rfl rfl (by decide) dX11_hatted_22 rfl ?_
    refine V_iconst 26 (0) rfl dX11_hatted_25 rfl ?_
    refine V_ialdN 27 95 1792 0 (oI (LO D (pA K f D g) (cM K) (cH K) (cM K) 0)) h0 (by omega) (by decide) rfl (by decide) dX11_hatted_26 rfl ?_
    refine V_ret_i rfl rfl (Nat.le_of_ble_eq_true rfl) (fun h => absurd h (by decide)) (Nat.le_of_ble_eq_true rfl) (hq I1 (hz.go6 hF1)) dX11_hatted_27
  · refine Kq_i (k' := 0) (sl' := 0) rfl rfl ?_
    rw [ckN_n (by omega) i8] at hq
    refine V_if_ne 16 14 rfl dX11_hatted_11 rfl (fun c11 => absurd c11 (by decide)) (fun c11 => ?_)
    refine V_iconst 15 (0) rfl dX11_hatted_14 rfl ?_
    refine V_ret_i rfl rfl (Nat.le_of_ble_eq_true rfl) (fun h => absurd h (by decide)) (Nat.le_of_ble_eq_true rfl) (hq.x hI0 rfl) dX11_hatted_15
set_option maxHeartbeats 8000000 in
theorem c_X11_given {G : Gx} {d : Nat} {I : FI} {R : FR} {J : FJ} {Q : Po} {K : CO} {f : DV → Int32} {D : DV} (hX : RM I R K f D) {x y : Int32}  (hq : HoM I R J Q 1 (ckN x (cG K) (ckN y (cM K) (.inl (oI (givO D (pA K f D x.toNatClampNeg) (cM K) (cH K) y.toNatClampNeg)))))) : Cc G mX11_given (d + 60) 0 0 [rf G 69, .int x, .int y] 103 I R J Q := by
  obtain ⟨I0, hI0⟩ : ∃ I0, I0 = up2 I 69 0 0 := ⟨_, rfl⟩
  have hz := FrM.z hI0
  obtain ⟨hRM, hK, hW, hN, hI, hL, hfR⟩ := hX.fr hz
  have ht : I0 69 0 = 0 := hz.2.1
  have h8 := hW.1
  have hg6 := hW.2.1
  have h6 := hW.2.2.1
  have hWD := hI.1
  have hFl := hI.1.1
  have hB := hI.2.2.1
  have hSt := hI.2.1
  show V _ _ _ _ _ _ _ _ [(0, rf G 69), (1, .int x), (2, .int y)] [] _ _ _ _ _
  refine V_aload_n 1 0 rfl _ rfl rfl dX11_given_0 rfl ?_
  refine V_iconst 2 (0) rfl dX11_given_1 rfl ?_
  refine V_putI 5 69 11 0 flX11_3 rfl rfl rfl (by decide) rfl dX11_given_2 rfl ?_
  rw [← hI0]
  refine V_aload_n 6 0 rfl _ rfl rfl dX11_given_5 rfl ?_
  refine V_iload_n 7 1 rfl rfl dX11_given_6 rfl ?_
  refine V_iconst 8 (1) rfl dX11_given_7 rfl ?_
  refine V_callV (K' := 0) (S' := 0) 11 69 11 2 [.int x, .int 1] mkX11_isGround lkX11_401 (by decide) rfl rfl (by decide) rfl (Nat.le_of_ble_eq_true rfl) (Nat.le_of_ble_eq_true rfl) (Nat.le_of_ble_eq_true rfl) (Nat.le_of_ble_eq_true rfl) rfl rfl dX11_given_8 rfl (c_X11_isGround (c := cG K) (cd := 1) hRM (by omega) hK.2.1 (by decide) (by decide) ht (fun i8 => ?_) (fun i8 => ?_))
  · refine Kq_i (k' := 0) (sl' := 0) rfl rfl ?_
    rw [ckN_y (by omega) i8] at hq
    obtain ⟨g, hg, rfl⟩ := i8
    refine V_if_eq 23 14 rfl dX11_given_11 rfl (fun c11 => absurd c11 (by decide)) (fun c11 => ?_)
    refine V_aload_n 15 0 rfl _ rfl rfl dX11_given_14 rfl ?_
    refine V_iload_n 16 2 rfl rfl dX11_given_15 rfl ?_
    refine V_iconst 17 (1) rfl dX11_given_16 rfl ?_
    refine V_callV (K' := 0) (S' := 0) 20 69 11 2 [.int y, .int 1] mkX11_isMan lkX11_404 (by decide) rfl rfl (by decide) rfl (Nat.le_of_ble_eq_true rfl) (Nat.le_of_ble_eq_true rfl) (Nat.le_of_ble_eq_true rfl) (Nat.le_of_ble_eq_true rfl) rfl rfl dX11_given_17 rfl (c_X11_isMan (c := cM K) (cd := 1) hRM (by omega) hK.2.2.1 (by decide) (by decide) ht (fun i17 => ?_) (fun i17 => ?_))
    · refine Kq_i (k' := 0) (sl' := 0) rfl rfl ?_
      rw [ckN_y (by omega) i17] at hq
      obtain ⟨m, hm, rfl⟩ := i17
      refine V_if_ne 25 23 rfl dX11_given_20 rfl (fun c20 => ?_) (fun c20 => absurd c20 (by decide))
      refine V_aload_n 26 0 rfl _ rfl rfl dX11_given_25 rfl ?_
      refine V_iload_n 27 1 rfl rfl dX11_given_26 rfl ?_
      refine V_callV (K' := 0) (S' := 0) 30 69 11 1 [.int (nI g)] mkX11_findHatted lkX11_421 (by decide) rfl rfl (by decide) rfl (Nat.le_of_ble_eq_true rfl) (Nat.le_of_ble_eq_true rfl) (Nat.le_of_ble_eq_true rfl) (Nat.le_of_ble_eq_true rfl) rfl rfl dX11_given_27 rfl (c_X11_findHatted hRM hK hW hN hL hfR hFl hg (fun I1 hF1 h0 hG1 => ?_))
      refine Kq_v (k' := 0) (sl' := 0) rfl rfl ?_
      rw [nI_clamp (show g < 2 ^ 31 by omega), nI_clamp (show m < 2 ^ 31 by omega)] at hq
      refine V_aload_n 31 0 rfl _ rfl rfl dX11_given_30 rfl ?_
      refine V_getR 34 69 11 49 96 (hRM 49) flX11_95 rfl rfl rfl (by decide) dX11_given_31 rfl ?_
      refine V_iload_n 35 2 rfl rfl dX11_given_34 rfl ?_
      refine V_ialdN 36 96 6 m (oI (givO D (pA K f D g) (cM K) (cH K) m)) (hG1 m hm) (by omega) (by decide) rfl (by decide) dX11_given_35 rfl ?_
      refine V_ret_i rfl rfl (Nat.le_of_ble_eq_true rfl) (fun h => absurd h (by decide)) (Nat.le_of_ble_eq_true rfl) (hq I1 (hz.go6 hF1)) dX11_given_36
    · refine Kq_i (k' := 0) (sl' := 0) rfl rfl ?_
      rw [ckN_n (by omega) i17] at hq
      refine V_if_ne 25 23 rfl dX11_given_20 rfl (fun c20 => absurd c20 (by decide)) (fun c20 => ?_)
      refine V_iconst 24 (0) rfl dX11_given_23 rfl ?_
      refine V_ret_i rfl rfl (Nat.le_of_ble_eq_true rfl) (fun h => absurd h (by decide)) (Nat.le_of_ble_eq_true rfl) (hq.x hI0 rfl) dX11_given_24
  · refine Kq_i (k' := 0) (sl' := 0) rfl rfl ?_
    rw [ckN_n (by omega) i8] at hq
    refine V_if_eq 23 14 rfl dX11_given_11 rfl (fun c11 => ?_) (fun c11 => absurd c11 (by decide))
    refine V_iconst 24 (0) rfl dX11_given_23 rfl ?_
    refine V_ret_i rfl rfl (Nat.le_of_ble_eq_true rfl) (fun h => absurd h (by decide)) (Nat.le_of_ble_eq_true rfl) (hq.x hI0 rfl) dX11_given_24
