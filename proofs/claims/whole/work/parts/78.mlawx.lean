/-! ===== the reference: law, book ===== -/
theorem c_X11_law {G : Gx} {d : Nat} {I : FI} {R : FR} {J : FJ} {Q : Po} {s : SG} (hX : SM I R s) (hS : SI s) {x : Int32} (hq : HR I R J Q 1 (lawT s x)) : Cc G mX11_law (d + 900) 0 0 [rf G 69, .int x] 103 I R J Q := by
  obtain ⟨I0, hI0⟩ : ∃ I0, I0 = up2 I 69 0 0 := ⟨_, rfl⟩
  have hz := FrM.z hI0
  have hX0 := hX.q hz
  obtain ⟨⟨hRM, m2, m3, m4, m5, m6, m7⟩, ⟨t1, t2, t3⟩, ⟨b1, b2⟩, ⟨p1, p2, p3, p4⟩, r1, r2, r3⟩ := id hX0
  obtain ⟨s1, s2, s3, s4, s5, s6, s7, s8, s9, s10⟩ := hS
  have ht : I0 69 0 = 0 := hz.2.1
  have i0 : ∀ a, a ≠ 69 → I0 a = I a := fun a h => by rw [hI0]; exact up2_n _ _ _ h
  have fr : ∀ {A : FI}, (∀ a, a ≠ 69 → (a < 72 ∨ 75 < a) → a ≠ 80 → a ≠ 81 → a ≠ 86 → a ≠ 92 → A a = I0 a) → (∀ j, j ≠ 2 → j ≠ 3 → j ≠ 4 → j ≠ 5 → j ≠ 6 → j ≠ 7 → j ≠ 8 → j ≠ 18 → j ≠ 19 → j ≠ 20 → j ≠ 29 → j ≠ 34 → A 69 j = I0 69 j) → A 69 2 = 0 → ∀ v, A 69 8 = v → SM A R (txB s v) ∧ (∀ a, a < 69 → A a = I a) ∧ A 69 0 = 0 ∧ A 102 = I 102 := fun {A} g z h2 v h8 => ⟨hX0.fr (tn' := 0) (fun a ha => g a (by omega) (by omega) (by omega) (by omega) (by omega) (by omega)) (fun j hj => z j (by omega) (by omega) (by omega) (by omega) (by omega) (by omega) (by omega) (by omega) (by omega) (by omega) (by omega) (by omega)) h2 h8, fun a ha => by rw [g a (by omega) (by omega) (by omega) (by omega) (by omega) (by omega)]; exact i0 a (by omega), by rw [z 0 (by decide) (by decide) (by decide) (by decide) (by decide) (by decide) (by decide) (by decide) (by decide) (by decide) (by decide) (by decide)]; exact ht, by rw [g 102 (by decide) (by decide) (by decide) (by decide) (by decide) (by decide)]; exact i0 102 (by decide)⟩
  have hd : dLw 6 = 260 := rfl
  show V _ _ _ _ _ _ _ _ [(0, rf G 69), (1, .int x)] [] _ _ _ _ _
  refine V_aload_n 1 0 rfl _ rfl rfl dX11_law_0 rfl ?_
  refine V_iconst 2 (0) rfl dX11_law_1 rfl ?_
  refine V_putI 5 69 11 0 flX11_3 rfl rfl rfl (by decide) rfl dX11_law_2 rfl ?_
  rw [← hI0]
  refine V_aload_n 6 0 rfl _ rfl rfl dX11_law_5 rfl ?_
  refine V_iload_n 7 1 rfl rfl dX11_law_6 rfl ?_
  refine V_if_lt 29 10 rfl dX11_law_7 rfl (fun c7 => ?_) (fun c7 => ?_)
  · refine V_iconst 30 (0) rfl dX11_law_29 rfl ?_
    refine V_iconst 31 (1) rfl dX11_law_30 rfl ?_
    refine V_iconst 32 (1) rfl dX11_law_31 rfl ?_
    refine V_callV (K' := 0) (S' := 0) 35 69 11 3 [.int 0, .int 1, .int 1] mkX11_may lkX11_216 (by decide) rfl rfl (by decide) rfl (Nat.le_of_ble_eq_true rfl) (Nat.le_of_ble_eq_true rfl) (Nat.le_of_ble_eq_true rfl) (Nat.le_of_ble_eq_true rfl) rfl rfl dX11_law_32 rfl (c_X11_may (cd := 1) (kd := 1) hRM (by decide) (by decide) (by decide) ht (fun e => absurd rfl e) (fun _ => ?_))
    refine Kq_i (k' := 0) (sl' := 0) rfl rfl ?_
    refine V_if_ne 40 38 rfl dX11_law_35 rfl (fun c35 => absurd c35 (by decide)) (fun c35 => ?_)
    refine V_iconst 39 (0) rfl dX11_law_38 rfl ?_
    refine V_ret_i rfl rfl (Nat.le_of_ble_eq_true rfl) (fun h => absurd h (by decide)) (Nat.le_of_ble_eq_true rfl) (hX0.no i0 (by rw [lawT_n (fun q => absurd ((ckT_iff s4 (by decide)).mp q).1 (Int32.not_le.mpr c7))] at hq; exact hq) rfl) dX11_law_39
  · refine V_iload_n 11 1 rfl rfl dX11_law_10 rfl ?_
    refine V_aload_n 12 0 rfl _ rfl rfl dX11_law_11 rfl ?_
    refine V_getI 15 69 11 2 (nI s.tn) t1 flX11_120 rfl rfl rfl (by decide) dX11_law_12 rfl ?_
    refine V_icmp_gt 29 18 rfl dX11_law_15 rfl (fun c15 => ?_) (fun c15 => ?_)
    · refine V_iconst 30 (0) rfl dX11_law_29 rfl ?_
      refine V_iconst 31 (1) rfl dX11_law_30 rfl ?_
      refine V_iconst 32 (1) rfl dX11_law_31 rfl ?_
      refine V_callV (K' := 0) (S' := 0) 35 69 11 3 [.int 0, .int 1, .int 1] mkX11_may lkX11_216 (by decide) rfl rfl (by decide) rfl (Nat.le_of_ble_eq_true rfl) (Nat.le_of_ble_eq_true rfl) (Nat.le_of_ble_eq_true rfl) (Nat.le_of_ble_eq_true rfl) rfl rfl dX11_law_32 rfl (c_X11_may (cd := 1) (kd := 1) hRM (by decide) (by decide) (by decide) ht (fun e => absurd rfl e) (fun _ => ?_))
      refine Kq_i (k' := 0) (sl' := 0) rfl rfl ?_
      refine V_if_ne 40 38 rfl dX11_law_35 rfl (fun c35 => absurd c35 (by decide)) (fun c35 => ?_)
      refine V_iconst 39 (0) rfl dX11_law_38 rfl ?_
      refine V_ret_i rfl rfl (Nat.le_of_ble_eq_true rfl) (fun h => absurd h (by decide)) (Nat.le_of_ble_eq_true rfl) (hX0.no i0 (by rw [lawT_n (fun q => absurd ((ckT_iff s4 (by decide)).mp q).2.1 (Int32.not_le.mpr c15))] at hq; exact hq) rfl) dX11_law_39
    · refine V_iload_n 19 1 rfl rfl dX11_law_18 rfl ?_
      refine V_sipush 22 (150) rfl dX11_law_19 rfl ?_
      refine V_icmp_gt 29 25 rfl dX11_law_22 rfl (fun c22 => ?_) (fun c22 => ?_)
      · refine V_iconst 30 (0) rfl dX11_law_29 rfl ?_
        refine V_iconst 31 (1) rfl dX11_law_30 rfl ?_
        refine V_iconst 32 (1) rfl dX11_law_31 rfl ?_
        refine V_callV (K' := 0) (S' := 0) 35 69 11 3 [.int 0, .int 1, .int 1] mkX11_may lkX11_216 (by decide) rfl rfl (by decide) rfl (Nat.le_of_ble_eq_true rfl) (Nat.le_of_ble_eq_true rfl) (Nat.le_of_ble_eq_true rfl) (Nat.le_of_ble_eq_true rfl) rfl rfl dX11_law_32 rfl (c_X11_may (cd := 1) (kd := 1) hRM (by decide) (by decide) (by decide) ht (fun e => absurd rfl e) (fun _ => ?_))
        refine Kq_i (k' := 0) (sl' := 0) rfl rfl ?_
        refine V_if_ne 40 38 rfl dX11_law_35 rfl (fun c35 => absurd c35 (by decide)) (fun c35 => ?_)
        refine V_iconst 39 (0) rfl dX11_law_38 rfl ?_
        refine V_ret_i rfl rfl (Nat.le_of_ble_eq_true rfl) (fun h => absurd h (by decide)) (Nat.le_of_ble_eq_true rfl) (hX0.no i0 (by rw [lawT_n (fun q => absurd ((ckT_iff s4 (by decide)).mp q).2.2 (Int32.not_le.mpr c22))] at hq; exact hq) rfl) dX11_law_39
      · refine V_iconst 26 (1) rfl dX11_law_25 rfl ?_
        refine V_goto 30 rfl dX11_law_26 ?_
        refine V_iconst 31 (1) rfl dX11_law_30 rfl ?_
        refine V_iconst 32 (1) rfl dX11_law_31 rfl ?_
        refine V_callV (K' := 0) (S' := 0) 35 69 11 3 [.int 1, .int 1, .int 1] mkX11_may lkX11_216 (by decide) rfl rfl (by decide) rfl (Nat.le_of_ble_eq_true rfl) (Nat.le_of_ble_eq_true rfl) (Nat.le_of_ble_eq_true rfl) (Nat.le_of_ble_eq_true rfl) rfl rfl dX11_law_32 rfl (c_X11_may (cd := 1) (kd := 1) hRM (by decide) (by decide) (by decide) ht (fun _ => ?_) (fun e => absurd e (by decide)))
        refine Kq_i (k' := 0) (sl' := 0) rfl rfl ?_
        have ck : ckT x s.tn 150 := (ckT_iff s4 (by decide)).mpr ⟨Int32.not_lt.mp c7, Int32.not_lt.mp c15, Int32.not_lt.mp c22⟩
        obtain ⟨z, hz, hzm, rfl⟩ := ckT_z s4 ck
        refine V_if_ne 40 38 rfl dX11_law_35 rfl (fun c35 => ?_) (fun c35 => absurd c35 (by decide))
        refine V_aload_n 41 0 rfl _ rfl rfl dX11_law_40 rfl ?_
        refine V_iload_n 42 1 rfl rfl dX11_law_41 rfl ?_
        refine V_callV (K' := 0) (S' := 0) 45 69 11 1 [.int (nI z)] mkX11_begins lkX11_220 (by decide) rfl rfl (by decide) rfl (Nat.le_of_ble_eq_true rfl) (Nat.le_of_ble_eq_true rfl) (Nat.le_of_ble_eq_true rfl) (Nat.le_of_ble_eq_true rfl) rfl rfl dX11_law_42 rfl (c_X11_begins ?_)
        refine Kq_v (k' := 0) (sl' := 0) rfl rfl ?_
        have hT0 : TxM (BgM I0 (nI z)) s.t z := Bg_T (by omega) t2 s5
        refine V_aload_n 46 0 rfl _ rfl rfl dX11_law_45 rfl ?_
        refine V_iconst 47 (0) rfl dX11_law_46 rfl ?_
        refine V_putI 50 69 11 29 flX11_249 rfl rfl rfl (by decide) rfl dX11_law_47 rfl ?_
        obtain ⟨B, eB⟩ : ∃ B, B = up2 (BgM I0 (nI z)) 69 29 0 := ⟨_, rfl⟩
        rw [← eB]
        have B1 : ∀ a, a ≠ 69 → B a = I0 a := fun a h => by rw [eB, up2_n _ _ _ h]; exact Bg_n h
        have B2 : ∀ j, j ≠ 29 → B 69 j = BgM I0 (nI z) 69 j := fun j h => by rw [eB, up2_s, upd_n h]
        have hTB : TxM B s.t z := hT0.fr (B2 3 (by decide)) (by rw [eB, up2_n _ _ _ (by decide)])
        obtain ⟨kk, ek⟩ : ∃ kk, kk = B 69 6 := ⟨_, rfl⟩
        have eo : B = lx (ox B 0) 0 (-1) kk := by rw [← ox_self (by rw [B2 7 (by decide)]; exact Bg_7)]; exact lx_self (by rw [B2 4 (by decide)]; exact Bg_4) (by rw [B2 5 (by decide)]; exact Bg_5) ek.symm
        have hNB : NB B 0 := ⟨by rw [eB, up2_s]; exact upd_s, Nat.zero_le _, fun i hi => absurd hi (Nat.not_lt_zero _)⟩
        have Z : ∀ {A : FI}, FrN B A → (∀ a, a ≠ 69 → a ≠ 80 → a ≠ 81 → A a = I0 a) ∧ (∀ j, j ≠ 2 → j ≠ 3 → j ≠ 4 → j ≠ 5 → j ≠ 7 → j ≠ 8 → j ≠ 29 → A 69 j = I0 69 j) ∧ A 69 2 = 0 := fun {A} h => ⟨fun a h1 h2 h3 => by rw [h.1 a h1 h2 h3]; exact B1 a h1, fun j h2 h3 h4 h5 h7 h8 h9 => by rw [h.2 j h9, B2 j h9]; exact Bg_69 h2 h3 h4 h5 h7 h8, by rw [h.2 2 (by decide), B2 2 (by decide)]; exact Bg_2⟩
        refine V_rwI eo ?_
        refine V_aload_n 51 0 rfl _ rfl rfl dX11_law_50 rfl ?_
        refine V_callV (K' := 0) (S' := 0) 54 69 11 0 [] mkX11_readSum lkX11_264 (by decide) rfl rfl (by decide) rfl (Nat.le_of_ble_eq_true rfl) (Nat.le_of_ble_eq_true rfl) (Nat.le_of_ble_eq_true rfl) (Nat.le_of_ble_eq_true rfl) rfl rfl dX11_law_51 rfl (c_X11_all 6 (Nat.le_refl _) _ _ _ _ _ 0 0 _ (by omega) hRM hTB hzm (Nat.zero_le _) (Nat.zero_le _) hNB (fun e2 pp2 I2 a2 n2 eu hu1 hu2 ha2 hsk hn0 hn1 hNB2 hVS2 hEx2 hF2 => ?_) (fun kd2 q2 I2 a2 eu hk2 hk3 hq2 ha2 hF2 => ?_))
        · refine Kq_v (k' := 0) (sl' := 0) rfl rfl ?_
          have hT2 : TxM (ox I2 0) s.t z := (hF2.T hTB).fr (ox_69 (by decide)) (ox_n (by decide))
          refine V_aload_n 55 0 rfl _ rfl rfl dX11_law_54 rfl ?_
          refine V_callV (K' := 0) (S' := 0) 58 69 11 0 [] mkX11_fine lkX11_152 (by decide) rfl rfl (by decide) rfl (Nat.le_of_ble_eq_true rfl) (Nat.le_of_ble_eq_true rfl) (Nat.le_of_ble_eq_true rfl) (Nat.le_of_ble_eq_true rfl) rfl rfl dX11_law_55 rfl (c_X11_fine (fun y1 => ?_) (fun y0 => absurd rfl y0))
          refine Kq_i (k' := 0) (sl' := 0) rfl rfl ?_
          refine V_if_eq 77 61 rfl dX11_law_58 rfl (fun c58 => absurd c58 (by decide)) (fun c58 => ?_)
          refine V_aload_n 62 0 rfl _ rfl rfl dX11_law_61 rfl ?_
          refine V_callV (K' := 0) (S' := 0) 65 69 11 0 [] mkX11_isMore lkX11_224 (by decide) rfl rfl (by decide) rfl (Nat.le_of_ble_eq_true rfl) (Nat.le_of_ble_eq_true rfl) (Nat.le_of_ble_eq_true rfl) (Nat.le_of_ble_eq_true rfl) rfl rfl dX11_law_62 rfl (c_X11_isMore hRM hT2 ha2 (fun m1 => ?_) (fun m0 => ?_))
          · refine Kq_i (k' := 0) (sl' := 0) rfl rfl ?_
            have eK : lawF s.t z = .inl (1, sk s.t z a2) := (bd_ok eu).trans ((if_neg (by show ¬ z ≤ pp2; omega)).trans (by rw [hsk]))
            refine V_if_eq 77 68 rfl dX11_law_65 rfl (fun c65 => absurd c65 (by decide)) (fun c65 => ?_)
            refine V_aload_n 69 0 rfl _ rfl rfl dX11_law_68 rfl ?_
            refine V_iconst 70 (1) rfl dX11_law_69 rfl ?_
            refine V_aload_n 71 0 rfl _ rfl rfl dX11_law_70 rfl ?_
            refine V_getI 74 69 11 4 (nI (sk s.t z a2)) rfl flX11_129 rfl rfl rfl (by decide) dX11_law_71 rfl ?_
            refine V_callV (K' := 0) (S' := 0) 77 69 11 2 [.int 1, .int (nI (sk s.t z a2))] mkX11_wrong lkX11_159 (by decide) rfl rfl (by decide) rfl (Nat.le_of_ble_eq_true rfl) (Nat.le_of_ble_eq_true rfl) (Nat.le_of_ble_eq_true rfl) (Nat.le_of_ble_eq_true rfl) rfl rfl dX11_law_74 rfl (c_X11_wrong (q := sk s.t z a2) (fun y0 => absurd rfl y0) (fun y1 => ?_))
            refine Kq_v (k' := 0) (sl' := 0) rfl rfl ?_
            refine V_aload_n 78 0 rfl _ rfl rfl dX11_law_77 rfl ?_
            refine V_iconst 79 (1) rfl dX11_law_78 rfl ?_
            refine V_callV (K' := 0) (S' := 0) 82 69 11 1 [.int 1] mkX11_result lkX11_245 (by decide) rfl rfl (by decide) rfl (Nat.le_of_ble_eq_true rfl) (Nat.le_of_ble_eq_true rfl) (Nat.le_of_ble_eq_true rfl) (Nat.le_of_ble_eq_true rfl) rfl rfl dX11_law_79 rfl (c_X11_result (fun y1 => absurd y1 (nI_ne (j := sk s.t z a2) (by omega))) (fun y0 => ?_))
            refine Kq_i (k' := 0) (sl' := 0) rfl rfl ?_
            rw [lawT_b s4 hz hzm eK] at hq
            obtain ⟨A, eA⟩ : ∃ A, A = up2 (lx (ox I2 0) (sk s.t z a2) (nI (sk s.t z a2)) 1) 69 8 (nI (sk s.t z a2)) := ⟨_, rfl⟩
            refine V_rwI (show _ = A from eA.symm) ?_
            obtain ⟨z1, z2, z3⟩ := Z hF2
            have A5 : A 69 5 = nI (sk s.t z a2) := by rw [eA, up2_s, upd_n (by decide)]; rfl
            have hf := fr (A := A) (fun a h1 _ h2 h3 _ _ => by rw [eA, up2_n _ _ _ h1, lx_n h1, ox_n h1]; exact z1 a h1 h2 h3) (fun j h2 h3 h4 h5 h6 h7 h8 _ _ _ h9 _ => by rw [eA, up2_s, upd_n h8, lx_69 h4 h5 h6, ox_69 h7]; exact z2 j h2 h3 h4 h5 h7 h8 h9) (by rw [eA, up2_s, upd_n (by decide), lx_69 (by decide) (by decide) (by decide), ox_69 (by decide)]; exact z3) (nI (sk s.t z a2)) (by rw [eA, up2_s]; exact upd_s)
            refine V_istore_n 83 [(2, .int (nI 1 - 10)), (0, rf G 69), (1, .int (nI z))] (by decide) rfl rfl dX11_law_82 rfl ?_
            refine V_aload_n 84 1 rfl _ rfl rfl dX11_law_83 rfl ?_
            refine V_getI 87 69 11 5 (nI (sk s.t z a2)) A5 flX11_123 rfl rfl rfl (by decide) dX11_law_84 rfl ?_
            refine V_iconst 88 (-1) rfl dX11_law_87 rfl ?_
            refine V_icmp_eq 93 91 rfl dX11_law_88 rfl (fun c88 => absurd c88 (nI_ne (j := (sk s.t z a2)) (by omega))) (fun c88 => ?_)
            refine V_iload_n 92 0 rfl rfl dX11_law_91 rfl ?_
            refine V_ret_i rfl rfl (Nat.le_of_ble_eq_true rfl) (fun h => absurd h (by decide)) (Nat.le_of_ble_eq_true rfl) (hq A hf.1 hf.2.1 hf.2.2.1 hf.2.2.2) dX11_law_92
          · refine Kq_i (k' := 0) (sl' := 0) rfl rfl ?_
            have eK : lawF s.t z = .inr e2 := (bd_ok eu).trans (if_pos (by show z ≤ pp2; omega))
            refine V_if_eq 77 68 rfl dX11_law_65 rfl (fun c65 => ?_) (fun c65 => absurd c65 (by decide))
            refine V_aload_n 78 0 rfl _ rfl rfl dX11_law_77 rfl ?_
            refine V_iconst 79 (1) rfl dX11_law_78 rfl ?_
            refine V_callV (K' := 0) (S' := 0) 82 69 11 1 [.int 1] mkX11_result lkX11_245 (by decide) rfl rfl (by decide) rfl (Nat.le_of_ble_eq_true rfl) (Nat.le_of_ble_eq_true rfl) (Nat.le_of_ble_eq_true rfl) (Nat.le_of_ble_eq_true rfl) rfl rfl dX11_law_79 rfl (c_X11_result (fun y1 => ?_) (fun y0 => absurd rfl y0))
            refine Kq_i (k' := 0) (sl' := 0) rfl rfl ?_
            rw [lawT_k s4 hz hzm eK] at hq
            obtain ⟨A, eA⟩ : ∃ A, A = up2 (lx (ox I2 0) (sk s.t z a2) (-1) kk) 69 8 (-1) := ⟨_, rfl⟩
            refine V_rwI (show _ = A from eA.symm) ?_
            obtain ⟨z1, z2, z3⟩ := Z hF2
            have A1 : ∀ a, a ≠ 69 → A a = I2 a := fun a h => by rw [eA, up2_n _ _ _ h, lx_n h, ox_n h]
            have A2 : ∀ j, j ≠ 8 → j ≠ 4 → j ≠ 5 → j ≠ 6 → j ≠ 7 → A 69 j = I2 69 j := fun j h8 h4 h5 h6 h7 => by rw [eA, up2_s, upd_n h8, lx_69 h4 h5 h6, ox_69 h7]
            have A29 : A 69 29 = nI n2 := by rw [A2 29 (by decide) (by decide) (by decide) (by decide) (by decide)]; exact hNB2.1
            have A5 : A 69 5 = -1 := by rw [eA, up2_s, upd_n (by decide)]; rfl
            have A8 : A 69 8 = -1 := by rw [eA, up2_s]; exact upd_s
            refine V_istore_n 83 [(2, .int 1), (0, rf G 69), (1, .int (nI z))] (by decide) rfl rfl dX11_law_82 rfl ?_
            refine V_aload_n 84 1 rfl _ rfl rfl dX11_law_83 rfl ?_
            refine V_getI 87 69 11 5 (-1) A5 flX11_123 rfl rfl rfl (by decide) dX11_law_84 rfl ?_
            refine V_iconst 88 (-1) rfl dX11_law_87 rfl ?_
            refine V_icmp_eq 93 91 rfl dX11_law_88 rfl (fun c88 => ?_) (fun c88 => absurd rfl c88)
            refine V_aload_n 94 1 rfl _ rfl rfl dX11_law_93 rfl ?_
            refine V_aload_n 95 1 rfl _ rfl rfl dX11_law_94 rfl ?_
            refine V_getI 98 69 11 29 (nI n2) A29 flX11_249 rfl rfl rfl (by decide) dX11_law_95 rfl ?_
            refine V_putI 101 69 11 30 flX11_188 rfl rfl rfl (by decide) rfl dX11_law_98 rfl ?_
            obtain ⟨C, eC⟩ : ∃ C, C = up2 A 69 30 (nI n2) := ⟨_, rfl⟩
            rw [← eC]
            have C1 : ∀ a, a ≠ 69 → C a = A a := fun a h => by rw [eC]; exact up2_n _ _ _ h
            have C2 : ∀ j, j ≠ 30 → C 69 j = A 69 j := fun j h => by rw [eC, up2_s, upd_n h]
            have C30 : C 69 30 = nI n2 := by rw [eC, up2_s]; exact upd_s
            refine V_aload_n 102 1 rfl _ rfl rfl dX11_law_101 rfl ?_
            refine V_aload_n 103 1 rfl _ rfl rfl dX11_law_102 rfl ?_
            refine V_getR 106 69 11 24 80 (hRM 24) flX11_47 rfl rfl rfl (by decide) dX11_law_103 rfl ?_
            refine V_aload_n 107 1 rfl _ rfl rfl dX11_law_106 rfl ?_
            refine V_getR 110 69 11 26 82 (hRM 26) flX11_53 rfl rfl rfl (by decide) dX11_law_107 rfl ?_
            refine V_aload_n 111 1 rfl _ rfl rfl dX11_law_110 rfl ?_
            refine V_getI 114 69 11 29 (nI n2) (by rw [C2 29 (by decide)]; exact A29) flX11_249 rfl rfl rfl (by decide) dX11_law_111 rfl ?_
            refine V_callV (K' := 0) (S' := 0) 117 69 11 3 [rf G 80, rf G 82, .int (nI n2)] mkX11_copies lkX11_184 (by decide) rfl rfl (by decide) rfl (Nat.le_of_ble_eq_true rfl) (Nat.le_of_ble_eq_true rfl) (Nat.le_of_ble_eq_true rfl) (Nat.le_of_ble_eq_true rfl) rfl rfl dX11_law_114 rfl (c_X11_copies_80_82 hRM hNB2.2.1 ?_)
            refine Kq_v (k' := 0) (sl' := 0) rfl rfl ?_
            refine V_aload_n 118 1 rfl _ rfl rfl dX11_law_117 rfl ?_
            refine V_aload_n 119 1 rfl _ rfl rfl dX11_law_118 rfl ?_
            refine V_getR 122 69 11 25 81 (hRM 25) flX11_50 rfl rfl rfl (by decide) dX11_law_119 rfl ?_
            refine V_aload_n 123 1 rfl _ rfl rfl dX11_law_122 rfl ?_
            refine V_getR 126 69 11 27 83 (hRM 27) flX11_56 rfl rfl rfl (by decide) dX11_law_123 rfl ?_
            refine V_aload_n 127 1 rfl _ rfl rfl dX11_law_126 rfl ?_
            refine V_getI 130 69 11 29 (nI n2) (by rw [upA_n (by decide), C2 29 (by decide)]; exact A29) flX11_249 rfl rfl rfl (by decide) dX11_law_127 rfl ?_
            refine V_callV (K' := 0) (S' := 0) 133 69 11 3 [rf G 81, rf G 83, .int (nI n2)] mkX11_copies lkX11_184 (by decide) rfl rfl (by decide) rfl (Nat.le_of_ble_eq_true rfl) (Nat.le_of_ble_eq_true rfl) (Nat.le_of_ble_eq_true rfl) (Nat.le_of_ble_eq_true rfl) rfl rfl dX11_law_130 rfl (c_X11_copies_81_83 hRM hNB2.2.1 ?_)
            refine Kq_v (k' := 0) (sl' := 0) rfl rfl ?_
            obtain ⟨E, eE⟩ : ∃ E, E = upA (upA C 82 (cpF (C 80) (C 82) n2)) 83 (cpF ((upA C 82 (cpF (C 80) (C 82) n2)) 81) ((upA C 82 (cpF (C 80) (C 82) n2)) 83) n2) := ⟨_, rfl⟩
            rw [← eE]
            have E1 : ∀ a, a ≠ 69 → a ≠ 82 → a ≠ 83 → a ≠ 80 → a ≠ 81 → E a = I0 a := fun a h1 h2 h3 h4 h5 => by rw [eE, upA_n h3, upA_n h2, C1 a h1, A1 a h1]; exact z1 a h1 h4 h5
            have E2 : E 69 = C 69 := by rw [eE, upA_n (by decide), upA_n (by decide)]
            have E3 : ∀ j, j ≠ 30 → j ≠ 2 → j ≠ 3 → j ≠ 4 → j ≠ 5 → j ≠ 6 → j ≠ 7 → j ≠ 8 → j ≠ 29 → E 69 j = I0 69 j := fun j h0 h2 h3 h4 h5 h6 h7 h8 h9 => by rw [E2, C2 j h0, A2 j h8 h4 h5 h6 h7]; exact z2 j h2 h3 h4 h5 h7 h8 h9
            have E82 : ∀ i, i < n2 → E 82 i = I2 80 i := fun i hi => by rw [eE, upA_n (by decide), upA_s]; exact (if_pos hi).trans (by rw [C1 80 (by decide), A1 80 (by decide)])
            have E83 : ∀ i, i < n2 → E 83 i = I2 81 i := fun i hi => by rw [eE, upA_s]; exact (if_pos hi).trans (by rw [upA_n (by decide), C1 81 (by decide), A1 81 (by decide)])
            have hLM : LawM E (fun F => clF (e2 F)) := by
              refine ⟨n2, hNB2.2.1, by rw [E2]; exact C30, fun i hi => (hNB2.2.2 i hi).cg (fun j hj => ⟨E82 j (by omega), E83 j (by omega)⟩), fun F => ?_⟩
              rw [if_neg (by omega), evS_cg n2 (fun i hi => ⟨E82 i hi, E83 i hi⟩)]
              show clF (e2 F) = clF _
              rw [← (hVS2.2 F).1]
              rfl
            have hf : SM E R (laS s e2) := by
              refine ⟨⟨hRM, m2.fr (E3 21 (by decide) (by decide) (by decide) (by decide) (by decide) (by decide) (by decide) (by decide) (by decide)) (E3 22 (by decide) (by decide) (by decide) (by decide) (by decide) (by decide) (by decide) (by decide) (by decide)) (E3 23 (by decide) (by decide) (by decide) (by decide) (by decide) (by decide) (by decide) (by decide) (by decide)) (fun a q1 q2 => E1 a (by omega) (by omega) (by omega) (by omega) (by omega)), m3, fun k hk => by rw [E1 88 (by decide) (by decide) (by decide) (by decide) (by decide)]; exact m4 k hk, m5, hLM, fun F => clF_R _⟩, ⟨?_, ?_, ?_⟩, ⟨?_, ?_⟩, ⟨?_, ?_, ?_, ?_⟩, ?_, ?_, ?_⟩
              · rw [E2, C2 2 (by decide), A2 2 (by decide) (by decide) (by decide) (by decide) (by decide)]; exact z3
              · rw [E1 71 (by decide) (by decide) (by decide) (by decide) (by decide)]; exact t2
              · rw [E2, C2 8 (by decide)]; exact A8
              · rw [E3 46 (by decide) (by decide) (by decide) (by decide) (by decide) (by decide) (by decide) (by decide) (by decide)]; exact b1
              · rw [E1 93 (by decide) (by decide) (by decide) (by decide) (by decide)]; exact b2
              · rw [E3 35 (by decide) (by decide) (by decide) (by decide) (by decide) (by decide) (by decide) (by decide) (by decide)]; exact p1
              · rw [E3 56 (by decide) (by decide) (by decide) (by decide) (by decide) (by decide) (by decide) (by decide) (by decide)]; exact p2
              · rw [E1 90 (by decide) (by decide) (by decide) (by decide) (by decide)]; exact p3
              · rw [E1 101 (by decide) (by decide) (by decide) (by decide) (by decide)]; exact p4
              · rw [E3 36 (by decide) (by decide) (by decide) (by decide) (by decide) (by decide) (by decide) (by decide) (by decide)]; exact r1
              · rw [E1 70 (by decide) (by decide) (by decide) (by decide) (by decide)]; exact r2
              · rw [E1 70 (by decide) (by decide) (by decide) (by decide) (by decide)]; exact r3
            refine V_iload_n 134 0 rfl rfl dX11_law_133 rfl ?_
            refine V_ret_i rfl rfl (Nat.le_of_ble_eq_true rfl) (fun h => absurd h (by decide)) (Nat.le_of_ble_eq_true rfl) (hq E hf (fun a ha => by rw [E1 a (by omega) (by omega) (by omega) (by omega) (by omega)]; exact i0 a (by omega)) (by rw [E3 0 (by decide) (by decide) (by decide) (by decide) (by decide) (by decide) (by decide) (by decide) (by decide)]; exact ht) (by rw [E1 102 (by decide) (by decide) (by decide) (by decide) (by decide)]; exact i0 102 (by decide))) dX11_law_134
        · refine Kq_v (k' := 0) (sl' := 0) rfl rfl ?_
          have eK : lawF s.t z = .inl (kd2, q2) := bd_no eu
          refine V_aload_n 55 0 rfl _ rfl rfl dX11_law_54 rfl ?_
          refine V_callV (K' := 0) (S' := 0) 58 69 11 0 [] mkX11_fine lkX11_152 (by decide) rfl rfl (by decide) rfl (Nat.le_of_ble_eq_true rfl) (Nat.le_of_ble_eq_true rfl) (Nat.le_of_ble_eq_true rfl) (Nat.le_of_ble_eq_true rfl) rfl rfl dX11_law_55 rfl (c_X11_fine (fun y1 => absurd y1 (nI_ne (j := q2) (by omega))) (fun y0 => ?_))
          refine Kq_i (k' := 0) (sl' := 0) rfl rfl ?_
          refine V_if_eq 77 61 rfl dX11_law_58 rfl (fun c58 => ?_) (fun c58 => absurd c58 (by decide))
          refine V_aload_n 78 0 rfl _ rfl rfl dX11_law_77 rfl ?_
          refine V_iconst 79 (1) rfl dX11_law_78 rfl ?_
          refine V_callV (K' := 0) (S' := 0) 82 69 11 1 [.int 1] mkX11_result lkX11_245 (by decide) rfl rfl (by decide) rfl (Nat.le_of_ble_eq_true rfl) (Nat.le_of_ble_eq_true rfl) (Nat.le_of_ble_eq_true rfl) (Nat.le_of_ble_eq_true rfl) rfl rfl dX11_law_79 rfl (c_X11_result (fun y1 => absurd y1 (nI_ne (j := q2) (by omega))) (fun y0 => ?_))
          refine Kq_i (k' := 0) (sl' := 0) rfl rfl ?_
          rw [lawT_b s4 hz hzm eK] at hq
          obtain ⟨A, eA⟩ : ∃ A, A = up2 (lx (ox I2 0) a2 (nI q2) (nI kd2)) 69 8 (nI q2) := ⟨_, rfl⟩
          refine V_rwI (show _ = A from eA.symm) ?_
          obtain ⟨z1, z2, z3⟩ := Z hF2
          have A5 : A 69 5 = nI q2 := by rw [eA, up2_s, upd_n (by decide)]; rfl
          have hf := fr (A := A) (fun a h1 _ h2 h3 _ _ => by rw [eA, up2_n _ _ _ h1, lx_n h1, ox_n h1]; exact z1 a h1 h2 h3) (fun j h2 h3 h4 h5 h6 h7 h8 _ _ _ h9 _ => by rw [eA, up2_s, upd_n h8, lx_69 h4 h5 h6, ox_69 h7]; exact z2 j h2 h3 h4 h5 h7 h8 h9) (by rw [eA, up2_s, upd_n (by decide), lx_69 (by decide) (by decide) (by decide), ox_69 (by decide)]; exact z3) (nI q2) (by rw [eA, up2_s]; exact upd_s)
          refine V_istore_n 83 [(2, .int (nI kd2 - 10)), (0, rf G 69), (1, .int (nI z))] (by decide) rfl rfl dX11_law_82 rfl ?_
          refine V_aload_n 84 1 rfl _ rfl rfl dX11_law_83 rfl ?_
          refine V_getI 87 69 11 5 (nI q2) A5 flX11_123 rfl rfl rfl (by decide) dX11_law_84 rfl ?_
          refine V_iconst 88 (-1) rfl dX11_law_87 rfl ?_
          refine V_icmp_eq 93 91 rfl dX11_law_88 rfl (fun c88 => absurd c88 (nI_ne (j := q2) (by omega))) (fun c88 => ?_)
          refine V_iload_n 92 0 rfl rfl dX11_law_91 rfl ?_
          refine V_ret_i rfl rfl (Nat.le_of_ble_eq_true rfl) (fun h => absurd h (by decide)) (Nat.le_of_ble_eq_true rfl) (hq A hf.1 hf.2.1 hf.2.2.1 hf.2.2.2) dX11_law_92
