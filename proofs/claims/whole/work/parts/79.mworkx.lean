/-! ===== the reference: book, work ===== -/
theorem c_X11_book {G : Gx} {d : Nat} {I : FI} {R : FR} {J : FJ} {Q : Po} {s : SG} (hX : SM I R s) (hS : SI s) {x : Int32} (hq : HR I R J Q 1 (bookT s x)) : Cc G mX11_book (d + 900) 0 0 [rf G 69, .int x] 103 I R J Q := by
  obtain ⟨I0, hI0⟩ : ∃ I0, I0 = up2 I 69 0 0 := ⟨_, rfl⟩
  have hz := FrM.z hI0
  have hX0 := hX.q hz
  obtain ⟨⟨hRM, m2, m3, m4, m5, m6, m7⟩, ⟨t1, t2, t3⟩, ⟨b1, b2⟩, ⟨p1, p2, p3, p4⟩, r1, r2, r3⟩ := id hX0
  obtain ⟨s1, s2, s3, s4, s5, s6, s7, s8, s9, s10⟩ := hS
  have ht : I0 69 0 = 0 := hz.2.1
  have i0 : ∀ a, a ≠ 69 → I0 a = I a := fun a h => by rw [hI0]; exact up2_n _ _ _ h
  have fr : ∀ {A : FI}, (∀ a, a ≠ 69 → (a < 72 ∨ 75 < a) → a ≠ 80 → a ≠ 81 → a ≠ 86 → a ≠ 92 → A a = I0 a) → (∀ j, j ≠ 2 → j ≠ 3 → j ≠ 4 → j ≠ 5 → j ≠ 6 → j ≠ 7 → j ≠ 8 → j ≠ 18 → j ≠ 19 → j ≠ 20 → j ≠ 29 → j ≠ 34 → A 69 j = I0 69 j) → A 69 2 = 0 → ∀ v, A 69 8 = v → SM A R (txB s v) ∧ (∀ a, a < 69 → A a = I a) ∧ A 69 0 = 0 ∧ A 102 = I 102 := fun {A} g z h2 v h8 => ⟨hX0.fr (tn' := 0) (fun a ha => g a (by omega) (by omega) (by omega) (by omega) (by omega) (by omega)) (fun j hj => z j (by omega) (by omega) (by omega) (by omega) (by omega) (by omega) (by omega) (by omega) (by omega) (by omega) (by omega) (by omega)) h2 h8, fun a ha => by rw [g a (by omega) (by omega) (by omega) (by omega) (by omega) (by omega)]; exact i0 a (by omega), by rw [z 0 (by decide) (by decide) (by decide) (by decide) (by decide) (by decide) (by decide) (by decide) (by decide) (by decide) (by decide) (by decide)]; exact ht, by rw [g 102 (by decide) (by decide) (by decide) (by decide) (by decide) (by decide)]; exact i0 102 (by decide)⟩
  show V _ _ _ _ _ _ _ _ [(0, rf G 69), (1, .int x)] [] _ _ _ _ _
  refine V_aload_n 1 0 rfl _ rfl rfl dX11_book_0 rfl ?_
  refine V_iconst 2 (0) rfl dX11_book_1 rfl ?_
  refine V_putI 5 69 11 0 flX11_3 rfl rfl rfl (by decide) rfl dX11_book_2 rfl ?_
  rw [← hI0]
  refine V_aload_n 6 0 rfl _ rfl rfl dX11_book_5 rfl ?_
  refine V_iload_n 7 1 rfl rfl dX11_book_6 rfl ?_
  refine V_if_lt 28 10 rfl dX11_book_7 rfl (fun c7 => ?_) (fun c7 => ?_)
  · refine V_iconst 29 (0) rfl dX11_book_28 rfl ?_
    refine V_iconst 30 (1) rfl dX11_book_29 rfl ?_
    refine V_iconst 31 (1) rfl dX11_book_30 rfl ?_
    refine V_callV (K' := 0) (S' := 0) 34 69 11 3 [.int 0, .int 1, .int 1] mkX11_may lkX11_216 (by decide) rfl rfl (by decide) rfl (Nat.le_of_ble_eq_true rfl) (Nat.le_of_ble_eq_true rfl) (Nat.le_of_ble_eq_true rfl) (Nat.le_of_ble_eq_true rfl) rfl rfl dX11_book_31 rfl (c_X11_may (cd := 1) (kd := 1) hRM (by decide) (by decide) (by decide) ht (fun e => absurd rfl e) (fun _ => ?_))
    refine Kq_i (k' := 0) (sl' := 0) rfl rfl ?_
    refine V_if_ne 39 37 rfl dX11_book_34 rfl (fun c34 => absurd c34 (by decide)) (fun c34 => ?_)
    refine V_iconst 38 (0) rfl dX11_book_37 rfl ?_
    refine V_ret_i rfl rfl (Nat.le_of_ble_eq_true rfl) (fun h => absurd h (by decide)) (Nat.le_of_ble_eq_true rfl) (hX0.no i0 (by rw [bookT_n (fun q => absurd ((ckT_iff s4 (by decide)).mp q).1 (Int32.not_le.mpr c7))] at hq; exact hq) rfl) dX11_book_38
  · refine V_iload_n 11 1 rfl rfl dX11_book_10 rfl ?_
    refine V_aload_n 12 0 rfl _ rfl rfl dX11_book_11 rfl ?_
    refine V_getI 15 69 11 2 (nI s.tn) t1 flX11_120 rfl rfl rfl (by decide) dX11_book_12 rfl ?_
    refine V_icmp_gt 28 18 rfl dX11_book_15 rfl (fun c15 => ?_) (fun c15 => ?_)
    · refine V_iconst 29 (0) rfl dX11_book_28 rfl ?_
      refine V_iconst 30 (1) rfl dX11_book_29 rfl ?_
      refine V_iconst 31 (1) rfl dX11_book_30 rfl ?_
      refine V_callV (K' := 0) (S' := 0) 34 69 11 3 [.int 0, .int 1, .int 1] mkX11_may lkX11_216 (by decide) rfl rfl (by decide) rfl (Nat.le_of_ble_eq_true rfl) (Nat.le_of_ble_eq_true rfl) (Nat.le_of_ble_eq_true rfl) (Nat.le_of_ble_eq_true rfl) rfl rfl dX11_book_31 rfl (c_X11_may (cd := 1) (kd := 1) hRM (by decide) (by decide) (by decide) ht (fun e => absurd rfl e) (fun _ => ?_))
      refine Kq_i (k' := 0) (sl' := 0) rfl rfl ?_
      refine V_if_ne 39 37 rfl dX11_book_34 rfl (fun c34 => absurd c34 (by decide)) (fun c34 => ?_)
      refine V_iconst 38 (0) rfl dX11_book_37 rfl ?_
      refine V_ret_i rfl rfl (Nat.le_of_ble_eq_true rfl) (fun h => absurd h (by decide)) (Nat.le_of_ble_eq_true rfl) (hX0.no i0 (by rw [bookT_n (fun q => absurd ((ckT_iff s4 (by decide)).mp q).2.1 (Int32.not_le.mpr c15))] at hq; exact hq) rfl) dX11_book_38
    · refine V_iload_n 19 1 rfl rfl dX11_book_18 rfl ?_
      refine V_bipush 21 (60) rfl dX11_book_19 rfl ?_
      refine V_icmp_gt 28 24 rfl dX11_book_21 rfl (fun c21 => ?_) (fun c21 => ?_)
      · refine V_iconst 29 (0) rfl dX11_book_28 rfl ?_
        refine V_iconst 30 (1) rfl dX11_book_29 rfl ?_
        refine V_iconst 31 (1) rfl dX11_book_30 rfl ?_
        refine V_callV (K' := 0) (S' := 0) 34 69 11 3 [.int 0, .int 1, .int 1] mkX11_may lkX11_216 (by decide) rfl rfl (by decide) rfl (Nat.le_of_ble_eq_true rfl) (Nat.le_of_ble_eq_true rfl) (Nat.le_of_ble_eq_true rfl) (Nat.le_of_ble_eq_true rfl) rfl rfl dX11_book_31 rfl (c_X11_may (cd := 1) (kd := 1) hRM (by decide) (by decide) (by decide) ht (fun e => absurd rfl e) (fun _ => ?_))
        refine Kq_i (k' := 0) (sl' := 0) rfl rfl ?_
        refine V_if_ne 39 37 rfl dX11_book_34 rfl (fun c34 => absurd c34 (by decide)) (fun c34 => ?_)
        refine V_iconst 38 (0) rfl dX11_book_37 rfl ?_
        refine V_ret_i rfl rfl (Nat.le_of_ble_eq_true rfl) (fun h => absurd h (by decide)) (Nat.le_of_ble_eq_true rfl) (hX0.no i0 (by rw [bookT_n (fun q => absurd ((ckT_iff s4 (by decide)).mp q).2.2 (Int32.not_le.mpr c21))] at hq; exact hq) rfl) dX11_book_38
      · refine V_iconst 25 (1) rfl dX11_book_24 rfl ?_
        refine V_goto 29 rfl dX11_book_25 ?_
        refine V_iconst 30 (1) rfl dX11_book_29 rfl ?_
        refine V_iconst 31 (1) rfl dX11_book_30 rfl ?_
        refine V_callV (K' := 0) (S' := 0) 34 69 11 3 [.int 1, .int 1, .int 1] mkX11_may lkX11_216 (by decide) rfl rfl (by decide) rfl (Nat.le_of_ble_eq_true rfl) (Nat.le_of_ble_eq_true rfl) (Nat.le_of_ble_eq_true rfl) (Nat.le_of_ble_eq_true rfl) rfl rfl dX11_book_31 rfl (c_X11_may (cd := 1) (kd := 1) hRM (by decide) (by decide) (by decide) ht (fun _ => ?_) (fun e => absurd e (by decide)))
        refine Kq_i (k' := 0) (sl' := 0) rfl rfl ?_
        have ck : ckT x s.tn 60 := (ckT_iff s4 (by decide)).mpr ⟨Int32.not_lt.mp c7, Int32.not_lt.mp c15, Int32.not_lt.mp c21⟩
        obtain ⟨z, hz, hzm, rfl⟩ := ckT_z s4 ck
        refine V_if_ne 39 37 rfl dX11_book_34 rfl (fun c34 => ?_) (fun c34 => absurd c34 (by decide))
        refine V_aload_n 40 0 rfl _ rfl rfl dX11_book_39 rfl ?_
        refine V_iload_n 41 1 rfl rfl dX11_book_40 rfl ?_
        refine V_callV (K' := 0) (S' := 0) 44 69 11 1 [.int (nI z)] mkX11_begins lkX11_220 (by decide) rfl rfl (by decide) rfl (Nat.le_of_ble_eq_true rfl) (Nat.le_of_ble_eq_true rfl) (Nat.le_of_ble_eq_true rfl) (Nat.le_of_ble_eq_true rfl) rfl rfl dX11_book_41 rfl (c_X11_begins ?_)
        refine Kq_v (k' := 0) (sl' := 0) rfl rfl ?_
        have hT0 : TxM (BgM I0 (nI z)) s.t z := Bg_T (by omega) t2 s5
        obtain ⟨B, eB⟩ : ∃ B, B = BgM I0 (nI z) := ⟨_, rfl⟩
        rw [← eB]
        rw [← eB] at hT0
        refine V_iconst 45 (0) rfl dX11_book_44 rfl ?_
        refine V_istore_n 46 [(2, .int 0), (0, rf G 69), (1, .int (nI z))] (by decide) rfl rfl dX11_book_45 rfl ?_
        obtain ⟨E, eE⟩ : ∃ E, E = upA B 92 (fiF (B 92) (-1) 24) := ⟨_, rfl⟩
        have E1 : ∀ a, a ≠ 92 → E a = B a := fun a h => by rw [eE]; exact upA_n h
        have E92 : ∀ h, h < 24 → E 92 h = oI none := fun h hh => by rw [eE, upA_s]; exact if_pos hh
        have hTE : TxM E s.t z := hT0.fr (by rw [E1 69 (by decide)]) (E1 71 (by decide))
        have eL : E = lx E 0 (-1) (E 69 6) := lx_self (by rw [E1 69 (by decide), eB]; exact Bg_4) (by rw [E1 69 (by decide), eB]; exact Bg_5) rfl
        have Z : ∀ {A : FI}, (∀ a, a ≠ 92 → A a = E a) → (∀ a, a ≠ 69 → a ≠ 92 → A a = I0 a) ∧ (∀ j, j ≠ 2 → j ≠ 3 → j ≠ 4 → j ≠ 5 → j ≠ 7 → j ≠ 8 → A 69 j = I0 69 j) ∧ A 69 2 = 0 := fun {A} h => ⟨fun a h1 h2 => by rw [h a h2, E1 a h2, eB]; exact Bg_n h1, fun j h2 h3 h4 h5 h7 h8 => by rw [h 69 (by decide), E1 69 (by decide), eB]; exact Bg_69 h2 h3 h4 h5 h7 h8, by rw [h 69 (by decide), E1 69 (by decide), eB]; exact Bg_2⟩
        have L : ∀ i, i ≤ 24 → V G mX11_book (d + 900) 0 0 0 0 46 [(2, .int (nI i)), (0, rf G 69)] [] 103 (upA B 92 (fiF (B 92) (-1) i)) R J Q := by
          refine loopd 24 ?_ (fun i hi ih => ?_)
          · refine V_iload_n 47 0 rfl rfl dX11_book_46 rfl ?_
            refine V_bipush 49 (24) rfl dX11_book_47 rfl ?_
            refine V_icmp_ge 65 52 rfl dX11_book_49 rfl (fun c49 => ?_) (fun c49 => absurd (Int32.le_refl _) c49)
            rw [← eE]
            refine V_rwI eL ?_
            refine V_iconst 66 (0) rfl dX11_book_65 rfl ?_
            refine V_istore_n 67 [(2, .int 0), (0, rf G 69)] (by decide) rfl rfl dX11_book_66 rfl ?_
            refine V_lv [0, 1] rfl (w_X11_book (d := d + 890) hRM hTE (fun n2 bk2 I2 a2 k2 eK hb2 hn2 hF2 ha2 => ?_) (fun kd2 q2 y2 I2 a2 eK hk2 hk3 hq2 hF2 ha2 => ?_) 10 0 (fun _ => none) 0 E rfl (by decide) (Nat.zero_le _) E92 (fun k v e => nomatch e) (fun a _ => rfl) rfl)
            · refine V_aload_n 184 1 rfl _ rfl rfl dX11_book_183 rfl ?_
              refine V_iload_n 185 0 rfl rfl dX11_book_184 rfl ?_
              refine V_callV (K' := 0) (S' := 0) 188 69 11 1 [.int (nI n2)] mkX11_result lkX11_245 (by decide) rfl rfl (by decide) rfl (Nat.le_of_ble_eq_true rfl) (Nat.le_of_ble_eq_true rfl) (Nat.le_of_ble_eq_true rfl) (Nat.le_of_ble_eq_true rfl) rfl rfl dX11_book_185 rfl (c_X11_result (fun y1 => ?_) (fun y0 => absurd rfl y0))
              refine Kq_i (k' := 0) (sl' := 0) rfl rfl ?_
              rw [bookT_k s4 hz hzm eK] at hq
              obtain ⟨A, eA⟩ : ∃ A, A = up2 (lx I2 a2 (-1) k2) 69 8 (-1) := ⟨_, rfl⟩
              refine V_rwI (show _ = A from eA.symm) ?_
              have A1 : ∀ a, a ≠ 69 → A a = I2 a := fun a h => by rw [eA, up2_n _ _ _ h, lx_n h]
              have A2 : ∀ j, j ≠ 8 → j ≠ 4 → j ≠ 5 → j ≠ 6 → A 69 j = I2 69 j := fun j h8 h4 h5 h6 => by rw [eA, up2_s, upd_n h8, lx_69 h4 h5 h6]
              have A5 : A 69 5 = -1 := by rw [eA, up2_s, upd_n (by decide)]; rfl
              have A8 : A 69 8 = -1 := by rw [eA, up2_s]; exact upd_s
              obtain ⟨z1, z2, z3⟩ := Z hF2
              refine V_istore_n 189 [(3, .int (nI n2)), (2, .int (nI n2)), (0, rf G 69)] (by decide) rfl rfl dX11_book_188 rfl ?_
              refine V_aload_n 190 2 rfl _ rfl rfl dX11_book_189 rfl ?_
              refine V_getI 193 69 11 5 (-1) A5 flX11_123 rfl rfl rfl (by decide) dX11_book_190 rfl ?_
              refine V_iconst 194 (-1) rfl dX11_book_193 rfl ?_
              refine V_icmp_eq 199 197 rfl dX11_book_194 rfl (fun c194 => ?_) (fun c194 => absurd rfl c194)
              refine V_aload_n 200 2 rfl _ rfl rfl dX11_book_199 rfl ?_
              refine V_iload_n 201 1 rfl rfl dX11_book_200 rfl ?_
              refine V_putI 204 69 11 46 flX11_191 rfl rfl rfl (by decide) rfl dX11_book_201 rfl ?_
              refine V_aload_n 205 2 rfl _ rfl rfl dX11_book_204 rfl ?_
              refine V_aload_n 206 2 rfl _ rfl rfl dX11_book_205 rfl ?_
              refine V_getR 209 69 11 44 92 (hRM 44) flX11_83 rfl rfl rfl (by decide) dX11_book_206 rfl ?_
              refine V_aload_n 210 2 rfl _ rfl rfl dX11_book_209 rfl ?_
              refine V_getR 213 69 11 45 93 (hRM 45) flX11_86 rfl rfl rfl (by decide) dX11_book_210 rfl ?_
              refine V_bipush 215 (24) rfl dX11_book_213 rfl ?_
              refine V_callV (K' := 0) (S' := 0) 218 69 11 3 [rf G 92, rf G 93, .int 24] mkX11_copies lkX11_184 (by decide) rfl rfl (by decide) rfl (Nat.le_of_ble_eq_true rfl) (Nat.le_of_ble_eq_true rfl) (Nat.le_of_ble_eq_true rfl) (Nat.le_of_ble_eq_true rfl) rfl rfl dX11_book_215 rfl (c_X11_copies_92_93 (z := 24) hRM (by decide) ?_)
              refine Kq_v (k' := 0) (sl' := 0) rfl rfl ?_
              obtain ⟨F, eF⟩ : ∃ F, F = upA (up2 A 69 46 (nI n2)) 93 (cpF ((up2 A 69 46 (nI n2)) 92) ((up2 A 69 46 (nI n2)) 93) 24) := ⟨_, rfl⟩
              rw [← eF]
              have F1 : ∀ a, a ≠ 69 → a ≠ 92 → a ≠ 93 → F a = I0 a := fun a h1 h2 h3 => by rw [eF, upA_n h3, up2_n _ _ _ h1, A1 a h1]; exact z1 a h1 h2
              have F2 : ∀ j, j ≠ 46 → j ≠ 8 → j ≠ 4 → j ≠ 5 → j ≠ 6 → F 69 j = I2 69 j := fun j h0 h8 h4 h5 h6 => by rw [eF, upA_n (by decide), up2_s, upd_n h0]; exact A2 j h8 h4 h5 h6
              have F3 : ∀ j, j ≠ 46 → j ≠ 2 → j ≠ 3 → j ≠ 4 → j ≠ 5 → j ≠ 6 → j ≠ 7 → j ≠ 8 → F 69 j = I0 69 j := fun j h0 h2 h3 h4 h5 h6 h7 h8 => by rw [F2 j h0 h8 h4 h5 h6]; exact z2 j h2 h3 h4 h5 h7 h8
              have F46 : F 69 46 = nI n2 := by rw [eF, upA_n (by decide), up2_s]; exact upd_s
              have F8 : F 69 8 = -1 := by rw [eF, upA_n (by decide), up2_s, upd_n (by decide)]; exact A8
              have F93 : ∀ h, h < 24 → F 93 h = oI (bk2 h) := fun h hh => by rw [eF, upA_s]; exact (if_pos hh).trans (by rw [up2_n _ _ _ (by decide), A1 92 (by decide)]; exact hb2 h hh)
              have hf : SM F R (boS s n2 bk2) := by
                refine ⟨⟨hRM, m2.fr (F3 21 (by decide) (by decide) (by decide) (by decide) (by decide) (by decide) (by decide) (by decide)) (F3 22 (by decide) (by decide) (by decide) (by decide) (by decide) (by decide) (by decide) (by decide)) (F3 23 (by decide) (by decide) (by decide) (by decide) (by decide) (by decide) (by decide) (by decide)) (fun a q1 q2 => F1 a (by omega) (by omega) (by omega)), m3, fun k hk => by rw [F1 88 (by decide) (by decide) (by decide)]; exact m4 k hk, m5, m6.fr (F3 30 (by decide) (by decide) (by decide) (by decide) (by decide) (by decide) (by decide) (by decide)) (F1 82 (by decide) (by decide) (by decide)) (F1 83 (by decide) (by decide) (by decide)), m7⟩, ⟨?_, ?_, F8⟩, ⟨F46, F93⟩, ⟨?_, ?_, ?_, ?_⟩, ?_, ?_, ?_⟩
                · rw [F2 2 (by decide) (by decide) (by decide) (by decide) (by decide)]; exact z3
                · rw [F1 71 (by decide) (by decide) (by decide)]; exact t2
                · rw [F3 35 (by decide) (by decide) (by decide) (by decide) (by decide) (by decide) (by decide) (by decide)]; exact p1
                · rw [F3 56 (by decide) (by decide) (by decide) (by decide) (by decide) (by decide) (by decide) (by decide)]; exact p2
                · rw [F1 90 (by decide) (by decide) (by decide)]; exact p3
                · rw [F1 101 (by decide) (by decide) (by decide)]; exact p4
                · rw [F3 36 (by decide) (by decide) (by decide) (by decide) (by decide) (by decide) (by decide) (by decide)]; exact r1
                · rw [F1 70 (by decide) (by decide) (by decide)]; exact r2
                · rw [F1 70 (by decide) (by decide) (by decide)]; exact r3
              refine V_iload_n 219 0 rfl rfl dX11_book_218 rfl ?_
              refine V_ret_i rfl rfl (Nat.le_of_ble_eq_true rfl) (fun h => absurd h (by decide)) (Nat.le_of_ble_eq_true rfl) (hq F hf (fun a ha => by rw [F1 a (by omega) (by omega) (by omega)]; exact i0 a (by omega)) (by rw [F3 0 (by decide) (by decide) (by decide) (by decide) (by decide) (by decide) (by decide) (by decide)]; exact ht) (by rw [F1 102 (by decide) (by decide) (by decide)]; exact i0 102 (by decide))) dX11_book_219
            · refine V_aload_n 184 1 rfl _ rfl rfl dX11_book_183 rfl ?_
              refine V_iload_n 185 0 rfl rfl dX11_book_184 rfl ?_
              refine V_callV (K' := 0) (S' := 0) 188 69 11 1 [.int y2] mkX11_result lkX11_245 (by decide) rfl rfl (by decide) rfl (Nat.le_of_ble_eq_true rfl) (Nat.le_of_ble_eq_true rfl) (Nat.le_of_ble_eq_true rfl) (Nat.le_of_ble_eq_true rfl) rfl rfl dX11_book_185 rfl (c_X11_result (fun y1 => absurd y1 (nI_ne (j := q2) (by omega))) (fun y0 => ?_))
              refine Kq_i (k' := 0) (sl' := 0) rfl rfl ?_
              rw [bookT_b s4 hz hzm eK] at hq
              obtain ⟨A, eA⟩ : ∃ A, A = up2 (lx I2 a2 (nI q2) (nI kd2)) 69 8 (nI q2) := ⟨_, rfl⟩
              refine V_rwI (show _ = A from eA.symm) ?_
              obtain ⟨z1, z2, z3⟩ := Z hF2
              have A5 : A 69 5 = nI q2 := by rw [eA, up2_s, upd_n (by decide)]; rfl
              have hf := fr (A := A) (fun a h1 _ _ _ _ h2 => by rw [eA, up2_n _ _ _ h1, lx_n h1]; exact z1 a h1 h2) (fun j h2 h3 h4 h5 h6 h7 h8 _ _ _ _ _ => by rw [eA, up2_s, upd_n h8, lx_69 h4 h5 h6]; exact z2 j h2 h3 h4 h5 h7 h8) (by rw [eA, up2_s, upd_n (by decide), lx_69 (by decide) (by decide) (by decide)]; exact z3) (nI q2) (by rw [eA, up2_s]; exact upd_s)
              refine V_istore_n 189 [(3, .int (nI kd2 - 10)), (2, .int y2), (0, rf G 69)] (by decide) rfl rfl dX11_book_188 rfl ?_
              refine V_aload_n 190 2 rfl _ rfl rfl dX11_book_189 rfl ?_
              refine V_getI 193 69 11 5 (nI q2) A5 flX11_123 rfl rfl rfl (by decide) dX11_book_190 rfl ?_
              refine V_iconst 194 (-1) rfl dX11_book_193 rfl ?_
              refine V_icmp_eq 199 197 rfl dX11_book_194 rfl (fun c194 => absurd c194 (nI_ne (j := q2) (by omega))) (fun c194 => ?_)
              refine V_iload_n 198 0 rfl rfl dX11_book_197 rfl ?_
              refine V_ret_i rfl rfl (Nat.le_of_ble_eq_true rfl) (fun h => absurd h (by decide)) (Nat.le_of_ble_eq_true rfl) (hq A hf.1 hf.2.1 hf.2.2.1 hf.2.2.2) dX11_book_198
          · refine V_iload_n 47 0 rfl rfl dX11_book_46 rfl ?_
            refine V_bipush 49 (24) rfl dX11_book_47 rfl ?_
            refine V_icmp_ge 65 52 rfl dX11_book_49 rfl (fun c49 => absurd c49 (nI_ge hi (by decide))) (fun c49 => ?_)
            refine V_aload_n 53 1 rfl _ rfl rfl dX11_book_52 rfl ?_
            refine V_getR 56 69 11 44 92 (hRM 44) flX11_83 rfl rfl rfl (by decide) dX11_book_53 rfl ?_
            refine V_iload_n 57 0 rfl rfl dX11_book_56 rfl ?_
            refine V_iconst 58 (-1) rfl dX11_book_57 rfl ?_
            refine V_iastN 59 92 24 i (by omega) (by decide) rfl (by decide) dX11_book_58 rfl ?_
            refine V_iinc 62 0 rfl (nI (i + 1)) [(2, .int (nI (i + 1))), (0, rf G 69)] (nI_1 _) (by decide) rfl dX11_book_59 rfl ?_
            refine V_goto 46 rfl dX11_book_62 ?_
            rw [upA_u, fiF_s]
            exact V_lv [0, 1] rfl ih
        refine V_rwI (upA_fi0 (a := 92) (v := -1)) ?_
        exact V_lv [0, 1] rfl (L 0 (Nat.zero_le _))
theorem c_X11_work {G : Gx} {d : Nat} {I : FI} {R : FR} {J : FJ} {Q : Po} {s : SG} (hX : SM I R s) (hS : SI s) {x : Int32} (hq : HR I R J Q 1 (workT s x)) : Cc G mX11_work (d + 900) 0 0 [rf G 69, .int x] 103 I R J Q := by
  obtain ⟨I0, hI0⟩ : ∃ I0, I0 = up2 I 69 0 0 := ⟨_, rfl⟩
  have hz := FrM.z hI0
  have hX0 := hX.q hz
  obtain ⟨⟨hRM, m2, m3, m4, m5, m6, m7⟩, ⟨t1, t2, t3⟩, ⟨b1, b2⟩, ⟨p1, p2, p3, p4⟩, r1, r2, r3⟩ := id hX0
  obtain ⟨s1, s2, s3, s4, s5, s6, s7, s8, s9, s10⟩ := hS
  have ht : I0 69 0 = 0 := hz.2.1
  have i0 : ∀ a, a ≠ 69 → I0 a = I a := fun a h => by rw [hI0]; exact up2_n _ _ _ h
  have fr : ∀ {A : FI}, (∀ a, a ≠ 69 → (a < 72 ∨ 75 < a) → a ≠ 80 → a ≠ 81 → a ≠ 86 → a ≠ 92 → A a = I0 a) → (∀ j, j ≠ 2 → j ≠ 3 → j ≠ 4 → j ≠ 5 → j ≠ 6 → j ≠ 7 → j ≠ 8 → j ≠ 18 → j ≠ 19 → j ≠ 20 → j ≠ 29 → j ≠ 34 → A 69 j = I0 69 j) → A 69 2 = 0 → ∀ v, A 69 8 = v → SM A R (txB s v) ∧ (∀ a, a < 69 → A a = I a) ∧ A 69 0 = 0 ∧ A 102 = I 102 := fun {A} g z h2 v h8 => ⟨hX0.fr (tn' := 0) (fun a ha => g a (by omega) (by omega) (by omega) (by omega) (by omega) (by omega)) (fun j hj => z j (by omega) (by omega) (by omega) (by omega) (by omega) (by omega) (by omega) (by omega) (by omega) (by omega) (by omega) (by omega)) h2 h8, fun a ha => by rw [g a (by omega) (by omega) (by omega) (by omega) (by omega) (by omega)]; exact i0 a (by omega), by rw [z 0 (by decide) (by decide) (by decide) (by decide) (by decide) (by decide) (by decide) (by decide) (by decide) (by decide) (by decide) (by decide)]; exact ht, by rw [g 102 (by decide) (by decide) (by decide) (by decide) (by decide) (by decide)]; exact i0 102 (by decide)⟩
  show V _ _ _ _ _ _ _ _ [(0, rf G 69), (1, .int x)] [] _ _ _ _ _
  refine V_aload_n 1 0 rfl _ rfl rfl dX11_work_0 rfl ?_
  refine V_iconst 2 (0) rfl dX11_work_1 rfl ?_
  refine V_putI 5 69 11 0 flX11_3 rfl rfl rfl (by decide) rfl dX11_work_2 rfl ?_
  rw [← hI0]
  refine V_aload_n 6 0 rfl _ rfl rfl dX11_work_5 rfl ?_
  refine V_iload_n 7 1 rfl rfl dX11_work_6 rfl ?_
  refine V_if_lt 29 10 rfl dX11_work_7 rfl (fun c7 => ?_) (fun c7 => ?_)
  · refine V_iconst 30 (0) rfl dX11_work_29 rfl ?_
    refine V_iconst 31 (1) rfl dX11_work_30 rfl ?_
    refine V_iconst 32 (1) rfl dX11_work_31 rfl ?_
    refine V_callV (K' := 0) (S' := 0) 35 69 11 3 [.int 0, .int 1, .int 1] mkX11_may lkX11_216 (by decide) rfl rfl (by decide) rfl (Nat.le_of_ble_eq_true rfl) (Nat.le_of_ble_eq_true rfl) (Nat.le_of_ble_eq_true rfl) (Nat.le_of_ble_eq_true rfl) rfl rfl dX11_work_32 rfl (c_X11_may (cd := 1) (kd := 1) hRM (by decide) (by decide) (by decide) ht (fun e => absurd rfl e) (fun _ => ?_))
    refine Kq_i (k' := 0) (sl' := 0) rfl rfl ?_
    refine V_if_ne 40 38 rfl dX11_work_35 rfl (fun c35 => absurd c35 (by decide)) (fun c35 => ?_)
    refine V_iconst 39 (0) rfl dX11_work_38 rfl ?_
    refine V_ret_i rfl rfl (Nat.le_of_ble_eq_true rfl) (fun h => absurd h (by decide)) (Nat.le_of_ble_eq_true rfl) (hX0.no i0 (by rw [workT_n (fun q => absurd ((ckT_iff s4 (by decide)).mp q).1 (Int32.not_le.mpr c7))] at hq; exact hq) rfl) dX11_work_39
  · refine V_iload_n 11 1 rfl rfl dX11_work_10 rfl ?_
    refine V_aload_n 12 0 rfl _ rfl rfl dX11_work_11 rfl ?_
    refine V_getI 15 69 11 2 (nI s.tn) t1 flX11_120 rfl rfl rfl (by decide) dX11_work_12 rfl ?_
    refine V_icmp_gt 29 18 rfl dX11_work_15 rfl (fun c15 => ?_) (fun c15 => ?_)
    · refine V_iconst 30 (0) rfl dX11_work_29 rfl ?_
      refine V_iconst 31 (1) rfl dX11_work_30 rfl ?_
      refine V_iconst 32 (1) rfl dX11_work_31 rfl ?_
      refine V_callV (K' := 0) (S' := 0) 35 69 11 3 [.int 0, .int 1, .int 1] mkX11_may lkX11_216 (by decide) rfl rfl (by decide) rfl (Nat.le_of_ble_eq_true rfl) (Nat.le_of_ble_eq_true rfl) (Nat.le_of_ble_eq_true rfl) (Nat.le_of_ble_eq_true rfl) rfl rfl dX11_work_32 rfl (c_X11_may (cd := 1) (kd := 1) hRM (by decide) (by decide) (by decide) ht (fun e => absurd rfl e) (fun _ => ?_))
      refine Kq_i (k' := 0) (sl' := 0) rfl rfl ?_
      refine V_if_ne 40 38 rfl dX11_work_35 rfl (fun c35 => absurd c35 (by decide)) (fun c35 => ?_)
      refine V_iconst 39 (0) rfl dX11_work_38 rfl ?_
      refine V_ret_i rfl rfl (Nat.le_of_ble_eq_true rfl) (fun h => absurd h (by decide)) (Nat.le_of_ble_eq_true rfl) (hX0.no i0 (by rw [workT_n (fun q => absurd ((ckT_iff s4 (by decide)).mp q).2.1 (Int32.not_le.mpr c15))] at hq; exact hq) rfl) dX11_work_39
    · refine V_iload_n 19 1 rfl rfl dX11_work_18 rfl ?_
      refine V_sipush 22 (150) rfl dX11_work_19 rfl ?_
      refine V_icmp_gt 29 25 rfl dX11_work_22 rfl (fun c22 => ?_) (fun c22 => ?_)
      · refine V_iconst 30 (0) rfl dX11_work_29 rfl ?_
        refine V_iconst 31 (1) rfl dX11_work_30 rfl ?_
        refine V_iconst 32 (1) rfl dX11_work_31 rfl ?_
        refine V_callV (K' := 0) (S' := 0) 35 69 11 3 [.int 0, .int 1, .int 1] mkX11_may lkX11_216 (by decide) rfl rfl (by decide) rfl (Nat.le_of_ble_eq_true rfl) (Nat.le_of_ble_eq_true rfl) (Nat.le_of_ble_eq_true rfl) (Nat.le_of_ble_eq_true rfl) rfl rfl dX11_work_32 rfl (c_X11_may (cd := 1) (kd := 1) hRM (by decide) (by decide) (by decide) ht (fun e => absurd rfl e) (fun _ => ?_))
        refine Kq_i (k' := 0) (sl' := 0) rfl rfl ?_
        refine V_if_ne 40 38 rfl dX11_work_35 rfl (fun c35 => absurd c35 (by decide)) (fun c35 => ?_)
        refine V_iconst 39 (0) rfl dX11_work_38 rfl ?_
        refine V_ret_i rfl rfl (Nat.le_of_ble_eq_true rfl) (fun h => absurd h (by decide)) (Nat.le_of_ble_eq_true rfl) (hX0.no i0 (by rw [workT_n (fun q => absurd ((ckT_iff s4 (by decide)).mp q).2.2 (Int32.not_le.mpr c22))] at hq; exact hq) rfl) dX11_work_39
      · refine V_iconst 26 (1) rfl dX11_work_25 rfl ?_
        refine V_goto 30 rfl dX11_work_26 ?_
        refine V_iconst 31 (1) rfl dX11_work_30 rfl ?_
        refine V_iconst 32 (1) rfl dX11_work_31 rfl ?_
        refine V_callV (K' := 0) (S' := 0) 35 69 11 3 [.int 1, .int 1, .int 1] mkX11_may lkX11_216 (by decide) rfl rfl (by decide) rfl (Nat.le_of_ble_eq_true rfl) (Nat.le_of_ble_eq_true rfl) (Nat.le_of_ble_eq_true rfl) (Nat.le_of_ble_eq_true rfl) rfl rfl dX11_work_32 rfl (c_X11_may (cd := 1) (kd := 1) hRM (by decide) (by decide) (by decide) ht (fun _ => ?_) (fun e => absurd e (by decide)))
        refine Kq_i (k' := 0) (sl' := 0) rfl rfl ?_
        have ck : ckT x s.tn 150 := (ckT_iff s4 (by decide)).mpr ⟨Int32.not_lt.mp c7, Int32.not_lt.mp c15, Int32.not_lt.mp c22⟩
        obtain ⟨z, hz, hzm, rfl⟩ := ckT_z s4 ck
        refine V_if_ne 40 38 rfl dX11_work_35 rfl (fun c35 => ?_) (fun c35 => absurd c35 (by decide))
        refine V_aload_n 41 0 rfl _ rfl rfl dX11_work_40 rfl ?_
        refine V_iload_n 42 1 rfl rfl dX11_work_41 rfl ?_
        refine V_callV (K' := 0) (S' := 0) 45 69 11 1 [.int (nI z)] mkX11_begins lkX11_220 (by decide) rfl rfl (by decide) rfl (Nat.le_of_ble_eq_true rfl) (Nat.le_of_ble_eq_true rfl) (Nat.le_of_ble_eq_true rfl) (Nat.le_of_ble_eq_true rfl) rfl rfl dX11_work_42 rfl (c_X11_begins ?_)
        refine Kq_v (k' := 0) (sl' := 0) rfl rfl ?_
        have hT0 : TxM (BgM I0 (nI z)) s.t z := Bg_T (by omega) t2 s5
        obtain ⟨B, eB⟩ : ∃ B, B = BgM I0 (nI z) := ⟨_, rfl⟩
        rw [← eB]
        rw [← eB] at hT0
        have B1 : ∀ a, a ≠ 69 → B a = I0 a := fun a h => by rw [eB]; exact Bg_n h
        have B35 : B 69 35 = nI s.wn := by rw [eB, Bg_69 (by decide) (by decide) (by decide) (by decide) (by decide) (by decide)]; exact p1
        have B5 : B 69 5 = -1 := by rw [eB]; exact Bg_5
        refine V_aload_n 46 0 rfl _ rfl rfl dX11_work_45 rfl ?_
        refine V_getI 49 69 11 35 (nI s.wn) B35 flX11_194 rfl rfl rfl (by decide) dX11_work_46 rfl ?_
        refine V_bipush 51 (16) rfl dX11_work_49 rfl ?_
        refine V_icmp_ne 63 54 rfl dX11_work_51 rfl (fun c51 => ?_) (fun c51 => ?_)
        · refine V_aload_n 64 0 rfl _ rfl rfl dX11_work_63 rfl ?_
          refine V_iconst 65 (0) rfl dX11_work_64 rfl ?_
          refine V_putI 68 69 11 34 flX11_299 rfl rfl rfl (by decide) rfl dX11_work_65 rfl ?_
          have hw : ¬ s.wn = 16 := fun e => c51 (by rw [e]; rfl)
          obtain ⟨B0, e0⟩ : ∃ B0, B0 = up2 B 69 34 0 := ⟨_, rfl⟩
          rw [← e0]
          have b1' : ∀ a, a ≠ 69 → B0 a = I0 a := fun a h => by rw [e0, up2_n _ _ _ h]; exact B1 a h
          have b2' : ∀ j, j ≠ 34 → B0 69 j = B 69 j := fun j h => by rw [e0, up2_s, upd_n h]
          have b34 : B0 69 34 = nI (3 * 0) := by rw [e0, up2_s]; exact upd_s
          have hTB : TxM B0 s.t z := hT0.fr (b2' 3 (by decide)) (by rw [e0, up2_n _ _ _ (by decide)])
          obtain ⟨kk, ek⟩ : ∃ kk, kk = B0 69 6 := ⟨_, rfl⟩
          have eo : B0 = lx (ox B0 0) 0 (-1) kk := by rw [← ox_self (by rw [b2' 7 (by decide), eB]; exact Bg_7)]; exact lx_self (by rw [b2' 4 (by decide), eB]; exact Bg_4) (by rw [b2' 5 (by decide)]; exact B5) ek.symm
          have hCB : CoastM B0 s.K := m2.fr (by rw [b2' 21 (by decide), eB, Bg_69 (by decide) (by decide) (by decide) (by decide) (by decide) (by decide)]) (by rw [b2' 22 (by decide), eB, Bg_69 (by decide) (by decide) (by decide) (by decide) (by decide) (by decide)]) (by rw [b2' 23 (by decide), eB, Bg_69 (by decide) (by decide) (by decide) (by decide) (by decide) (by decide)]) (fun a q1 q2 => b1' a (by omega))
          have Z : ∀ {A : FI}, FrV B0 A → (∀ a, a ≠ 69 → a ≠ 86 → A a = I0 a) ∧ (∀ j, j ≠ 2 → j ≠ 3 → j ≠ 4 → j ≠ 5 → j ≠ 7 → j ≠ 8 → j ≠ 34 → A 69 j = I0 69 j) ∧ A 69 2 = 0 := fun {A} h => ⟨fun a h1 h2 => by rw [h.1 a h1 h2]; exact b1' a h1, fun j h2 h3 h4 h5 h7 h8 h9 => by rw [h.2 j h9, b2' j h9, eB]; exact Bg_69 h2 h3 h4 h5 h7 h8, by rw [h.2 2 (by decide), b2' 2 (by decide), eB]; exact Bg_2⟩
          refine V_rwI eo ?_
          have bad : ∀ (kd2 q2 a2 : Nat) (I2 : FI), wkF s.t z s.K = .inl (kd2, q2) → q2 ≤ z → FrV B0 I2 → V G mX11_work (d + 900) 0 0 0 0 89 [(0, rf G 69)] [] 103 (lx (ox I2 0) a2 (nI q2) (nI kd2)) R J Q := by
            intro kd2 q2 a2 I2 eK hq2 hF2
            refine V_aload_n 90 0 rfl _ rfl rfl dX11_work_89 rfl ?_
            refine V_iconst 91 (0) rfl dX11_work_90 rfl ?_
            refine V_callV (K' := 0) (S' := 0) 94 69 11 1 [.int 0] mkX11_result lkX11_245 (by decide) rfl rfl (by decide) rfl (Nat.le_of_ble_eq_true rfl) (Nat.le_of_ble_eq_true rfl) (Nat.le_of_ble_eq_true rfl) (Nat.le_of_ble_eq_true rfl) rfl rfl dX11_work_91 rfl (c_X11_result (fun y1 => absurd y1 (nI_ne (j := q2) (by omega))) (fun y0 => ?_))
            refine Kq_i (k' := 0) (sl' := 0) rfl rfl ?_
            rw [workT_b s4 hz hzm hw eK] at hq
            obtain ⟨A, eA⟩ : ∃ A, A = up2 (lx (ox I2 0) a2 (nI q2) (nI kd2)) 69 8 (nI q2) := ⟨_, rfl⟩
            refine V_rwI (show _ = A from eA.symm) ?_
            obtain ⟨z1, z2, z3⟩ := Z hF2
            have A5 : A 69 5 = nI q2 := by rw [eA, up2_s, upd_n (by decide)]; rfl
            have hf := fr (A := A) (fun a h1 _ _ _ h2 _ => by rw [eA, up2_n _ _ _ h1, lx_n h1, ox_n h1]; exact z1 a h1 h2) (fun j h2 h3 h4 h5 h6 h7 h8 _ _ _ _ h9 => by rw [eA, up2_s, upd_n h8, lx_69 h4 h5 h6, ox_69 h7]; exact z2 j h2 h3 h4 h5 h7 h8 h9) (by rw [eA, up2_s, upd_n (by decide), lx_69 (by decide) (by decide) (by decide), ox_69 (by decide)]; exact z3) (nI q2) (by rw [eA, up2_s]; exact upd_s)
            refine V_istore_n 95 [(2, .int (nI kd2 - 10)), (0, rf G 69)] (by decide) rfl rfl dX11_work_94 rfl ?_
            refine V_aload_n 96 1 rfl _ rfl rfl dX11_work_95 rfl ?_
            refine V_getI 99 69 11 5 (nI q2) A5 flX11_123 rfl rfl rfl (by decide) dX11_work_96 rfl ?_
            refine V_iconst 100 (-1) rfl dX11_work_99 rfl ?_
            refine V_icmp_eq 105 103 rfl dX11_work_100 rfl (fun c100 => absurd c100 (nI_ne (j := q2) (by omega))) (fun c100 => ?_)
            refine V_iload_n 104 0 rfl rfl dX11_work_103 rfl ?_
            refine V_ret_i rfl rfl (Nat.le_of_ble_eq_true rfl) (fun h => absurd h (by decide)) (Nat.le_of_ble_eq_true rfl) (hq A hf.1 hf.2.1 hf.2.2.1 hf.2.2.2) dX11_work_104
          have good : ∀ (n2 pp2 a2 : Nat) (S2 : SR) (I2 : FI), wkF s.t z s.K = .inr ((n2, S2), pp2) → I2 69 34 = nI (3 * n2) → StM I2 0 n2 S2 → FrV B0 I2 → V G mX11_work (d + 900) 0 0 0 0 89 [(0, rf G 69)] [] 103 (lx (ox I2 0) a2 (-1) kk) R J Q := by
            intro n2 pp2 a2 S2 I2 eK h34 hR2 hF2
            refine V_aload_n 90 0 rfl _ rfl rfl dX11_work_89 rfl ?_
            refine V_iconst 91 (0) rfl dX11_work_90 rfl ?_
            refine V_callV (K' := 0) (S' := 0) 94 69 11 1 [.int 0] mkX11_result lkX11_245 (by decide) rfl rfl (by decide) rfl (Nat.le_of_ble_eq_true rfl) (Nat.le_of_ble_eq_true rfl) (Nat.le_of_ble_eq_true rfl) (Nat.le_of_ble_eq_true rfl) rfl rfl dX11_work_91 rfl (c_X11_result (fun y1 => ?_) (fun y0 => absurd rfl y0))
            refine Kq_i (k' := 0) (sl' := 0) rfl rfl ?_
            rw [workT_k s4 hz hzm hw eK] at hq
            obtain ⟨hn5, hCh⟩ := wkF_ok eK
            obtain ⟨A, eA⟩ : ∃ A, A = up2 (lx (ox I2 0) a2 (-1) kk) 69 8 (-1) := ⟨_, rfl⟩
            refine V_rwI (show _ = A from eA.symm) ?_
            obtain ⟨z1, z2, z3⟩ := Z hF2
            have A1 : ∀ a, a ≠ 69 → A a = I2 a := fun a h => by rw [eA, up2_n _ _ _ h, lx_n h, ox_n h]
            have A2 : ∀ j, j ≠ 8 → j ≠ 4 → j ≠ 5 → j ≠ 6 → j ≠ 7 → A 69 j = I2 69 j := fun j h8 h4 h5 h6 h7 => by rw [eA, up2_s, upd_n h8, lx_69 h4 h5 h6, ox_69 h7]
            have A34 : A 69 34 = nI (3 * n2) := by rw [A2 34 (by decide) (by decide) (by decide) (by decide) (by decide)]; exact h34
            have A5 : A 69 5 = -1 := by rw [eA, up2_s, upd_n (by decide)]; rfl
            have A8 : A 69 8 = -1 := by rw [eA, up2_s]; exact upd_s
            refine V_istore_n 95 [(2, .int 0), (0, rf G 69)] (by decide) rfl rfl dX11_work_94 rfl ?_
            refine V_aload_n 96 1 rfl _ rfl rfl dX11_work_95 rfl ?_
            refine V_getI 99 69 11 5 (-1) A5 flX11_123 rfl rfl rfl (by decide) dX11_work_96 rfl ?_
            refine V_iconst 100 (-1) rfl dX11_work_99 rfl ?_
            refine V_icmp_eq 105 103 rfl dX11_work_100 rfl (fun c100 => ?_) (fun c100 => absurd rfl c100)
            refine V_aload_n 106 1 rfl _ rfl rfl dX11_work_105 rfl ?_
            refine V_aload_n 107 1 rfl _ rfl rfl dX11_work_106 rfl ?_
            refine V_getR 110 69 11 32 86 (hRM 32) flX11_65 rfl rfl rfl (by decide) dX11_work_107 rfl ?_
            refine V_aload_n 111 1 rfl _ rfl rfl dX11_work_110 rfl ?_
            refine V_getR 114 69 11 33 87 (hRM 33) flX11_68 rfl rfl rfl (by decide) dX11_work_111 rfl ?_
            refine V_aload_n 115 1 rfl _ rfl rfl dX11_work_114 rfl ?_
            refine V_getI 118 69 11 34 (nI (3 * n2)) A34 flX11_299 rfl rfl rfl (by decide) dX11_work_115 rfl ?_
            refine V_callV (K' := 0) (S' := 0) 121 69 11 3 [rf G 86, rf G 87, .int (nI (3 * n2))] mkX11_copies lkX11_184 (by decide) rfl rfl (by decide) rfl (Nat.le_of_ble_eq_true rfl) (Nat.le_of_ble_eq_true rfl) (Nat.le_of_ble_eq_true rfl) (Nat.le_of_ble_eq_true rfl) rfl rfl dX11_work_118 rfl (c_X11_copies_86_87 hRM (by omega) ?_)
            refine Kq_v (k' := 0) (sl' := 0) rfl rfl ?_
            obtain ⟨C, eC⟩ : ∃ C, C = upA A 87 (cpF (A 86) (A 87) (3 * n2)) := ⟨_, rfl⟩
            rw [← eC]
            have C1 : ∀ a, a ≠ 69 → a ≠ 86 → a ≠ 87 → C a = I0 a := fun a h1 h2 h3 => by rw [eC, upA_n h3, A1 a h1]; exact z1 a h1 h2
            have C69 : C 69 = A 69 := by rw [eC]; exact upA_n (by decide)
            have C2 : ∀ j, j ≠ 2 → j ≠ 3 → j ≠ 4 → j ≠ 5 → j ≠ 6 → j ≠ 7 → j ≠ 8 → j ≠ 34 → C 69 j = I0 69 j := fun j h2 h3 h4 h5 h6 h7 h8 h9 => by rw [C69, A2 j h8 h4 h5 h6 h7]; exact z2 j h2 h3 h4 h5 h7 h8 h9
            have C35 : C 69 35 = nI s.wn := by rw [C2 35 (by decide) (by decide) (by decide) (by decide) (by decide) (by decide) (by decide) (by decide)]; exact p1
            have C34 : C 69 34 = nI (3 * n2) := by rw [C69]; exact A34
            have C87 : ∀ j, j < 3 * n2 → C 87 j = I2 86 j := fun j hj => by rw [eC, upA_s]; exact (if_pos hj).trans (by rw [A1 86 (by decide)])
            have C88 : ∀ k, k < 51 → C 88 k = s.D k := fun k hk => by rw [C1 88 (by decide) (by decide) (by decide)]; exact m4 k hk
            refine V_iconst 122 (0) rfl dX11_work_121 rfl ?_
            refine V_istore_n 123 [(3, .int 0), (2, .int 0), (0, rf G 69)] (by decide) rfl rfl dX11_work_122 rfl ?_
            have L : ∀ i, i ≤ 51 → ∀ g : DV, (∀ k, k < i → g (51 * s.wn + k) = s.D k) → (∀ j, (j < 51 * s.wn ∨ 51 * s.wn + 51 ≤ j) → g j = C 90 j) → V G mX11_work (d + 900) 0 0 0 0 123 [(3, .int (nI i)), (0, rf G 69)] [] 103 (upA C 90 g) R J Q := by
              refine loopd 51 (fun g h1 h2 => ?_) (fun i hi ih g h1 h2 => ?_)
              · refine V_iload_n 124 0 rfl rfl dX11_work_123 rfl ?_
                refine V_bipush 126 (51) rfl dX11_work_124 rfl ?_
                refine V_icmp_ge 155 129 rfl dX11_work_126 rfl (fun c126 => ?_) (fun c126 => absurd (Int32.le_refl _) c126)
                refine V_aload_n 156 1 rfl _ rfl rfl dX11_work_155 rfl ?_
                refine V_dup 157 rfl dX11_work_156 rfl ?_
                refine V_getI 160 69 11 35 (nI s.wn) (by rw [upA_n (by decide)]; exact C35) flX11_194 rfl rfl rfl (by decide) dX11_work_157 rfl ?_
                refine V_iconst 161 (1) rfl dX11_work_160 rfl ?_
                refine V_iadd 162 dX11_work_161 rfl ?_
                refine V_rw (nI_add s.wn 1) ?_
                refine V_putI 165 69 11 35 flX11_194 rfl rfl rfl (by decide) rfl dX11_work_162 rfl ?_
                obtain ⟨E, eE⟩ : ∃ E, E = up2 (upA C 90 g) 69 35 (nI (s.wn + 1)) := ⟨_, rfl⟩
                rw [← eE]
                have E1 : ∀ a, a ≠ 69 → a ≠ 90 → E a = C a := fun a h1 h2 => by rw [eE, up2_n _ _ _ h1, upA_n h2]
                have E90 : E 90 = g := by rw [eE, up2_n _ _ _ (by decide), upA_s]
                have E2 : ∀ j, j ≠ 35 → E 69 j = C 69 j := fun j h => by rw [eE, up2_s, upd_n h, upA_n (by decide)]
                have E35 : E 69 35 = nI (s.wn + 1) := by rw [eE, up2_s]; exact upd_s
                refine V_aload_n 166 1 rfl _ rfl rfl dX11_work_165 rfl ?_
                refine V_callV (K' := 0) (S' := 0) 169 69 11 0 [] mkX11_take lkX11_323 (by decide) rfl rfl (by decide) rfl (Nat.le_of_ble_eq_true rfl) (Nat.le_of_ble_eq_true rfl) (Nat.le_of_ble_eq_true rfl) (Nat.le_of_ble_eq_true rfl) rfl rfl dX11_work_166 rfl (c_X11_take hRM (fun I4 hT4 hT5 => ?_))
                refine Kq_v (k' := 0) (sl' := 0) rfl rfl ?_
                refine V_aload_n 170 1 rfl _ rfl rfl dX11_work_169 rfl ?_
                refine V_iconst 171 (0) rfl dX11_work_170 rfl ?_
                refine V_putI 174 69 11 37 flX11_326 rfl rfl rfl (by decide) rfl dX11_work_171 rfl ?_
                refine V_aload_n 175 1 rfl _ rfl rfl dX11_work_174 rfl ?_
                refine V_iconst 176 (0) rfl dX11_work_175 rfl ?_
                refine V_putI 179 69 11 38 flX11_329 rfl rfl rfl (by decide) rfl dX11_work_176 rfl ?_
                refine V_aload_n 180 1 rfl _ rfl rfl dX11_work_179 rfl ?_
                refine V_iconst 181 (0) rfl dX11_work_180 rfl ?_
                refine V_putI 184 69 11 39 flX11_332 rfl rfl rfl (by decide) rfl dX11_work_181 rfl ?_
                obtain ⟨H, eH⟩ : ∃ H, H = up2 (up2 (up2 I4 69 37 0) 69 38 0) 69 39 0 := ⟨_, rfl⟩
                rw [← eH]
                have H1 : ∀ a, a ≠ 69 → H a = I4 a := fun a h => by rw [eH, up2_n _ _ _ h, up2_n _ _ _ h, up2_n _ _ _ h]
                have H2 : ∀ j, j ≠ 37 → j ≠ 38 → j ≠ 39 → H 69 j = E 69 j := fun j q1 q2 q3 => by rw [eH, up2_s, upd_n q3, up2_s, upd_n q2, up2_s, upd_n q1, hT4 69 (by decide)]
                have H37 : H 69 37 = nI 0 := by rw [eH, up2_s, upd_n (by decide), up2_s, upd_n (by decide), up2_s]; exact upd_s
                have H38 : H 69 38 = nI 0 := by rw [eH, up2_s, upd_n (by decide), up2_s]; exact upd_s
                have H39 : H 69 39 = nI 0 := by rw [eH, up2_s]; exact upd_s
                have H34 : H 69 34 = nI (3 * n2) := by rw [H2 34 (by decide) (by decide) (by decide), E2 34 (by decide)]; exact C34
                have HC : ∀ a, a ≠ 69 → a ≠ 90 → a ≠ 89 → H a = C a := fun a q1 q2 q3 => by rw [H1 a q1, hT4 a q3]; exact E1 a q1 q2
                have HJ : ∀ j, j ≠ 2 → j ≠ 3 → j ≠ 4 → j ≠ 5 → j ≠ 6 → j ≠ 7 → j ≠ 8 → j ≠ 34 → j ≠ 35 → j ≠ 37 → j ≠ 38 → j ≠ 39 → H 69 j = I0 69 j := fun j h2 h3 h4 h5 h6 h7 h8 h9 h10 h11 h12 h13 => by rw [H2 j h11 h12 h13, E2 j h10]; exact C2 j h2 h3 h4 h5 h6 h7 h8 h9
                have hMX : MX H R s.K s.f n2 S2 s.D := ⟨hRM, m2.fr (HJ 21 (by decide) (by decide) (by decide) (by decide) (by decide) (by decide) (by decide) (by decide) (by decide) (by decide) (by decide) (by decide)) (HJ 22 (by decide) (by decide) (by decide) (by decide) (by decide) (by decide) (by decide) (by decide) (by decide) (by decide) (by decide) (by decide)) (HJ 23 (by decide) (by decide) (by decide) (by decide) (by decide) (by decide) (by decide) (by decide) (by decide) (by decide) (by decide) (by decide)) (fun a q1 q2 => by rw [HC a (by omega) (by omega) (by omega)]; exact C1 a (by omega) (by omega) (by omega)), m3, m6.fr (HJ 30 (by decide) (by decide) (by decide) (by decide) (by decide) (by decide) (by decide) (by decide) (by decide) (by decide) (by decide) (by decide)) (by rw [HC 82 (by decide) (by decide) (by decide)]; exact C1 82 (by decide) (by decide) (by decide)) (by rw [HC 83 (by decide) (by decide) (by decide)]; exact C1 83 (by decide) (by decide) (by decide)), by omega, fun i hi => by have q := hR2 i (Nat.zero_le _) hi; unfold MtM at q; unfold MtN; rw [HC 87 (by decide) (by decide) (by decide), C87 _ (by omega), C87 _ (by omega), C87 _ (by omega)]; exact q, fun k hk => by rw [H1 89 (by decide), hT5 k hk, E1 88 (by decide) (by decide)]; exact C88 k hk⟩
                have hEI : EI s.K (s.D, 0, 0, 0) := ⟨m5, s2.2, Nat.zero_le _, Nat.zero_le _⟩
                have hok := exL_ok m3 m7 6 0 n2 (s.D, 0, 0, 0) hCh hEI
                refine V_aload_n 185 1 rfl _ rfl rfl dX11_work_184 rfl ?_
                refine V_iconst 186 (0) rfl dX11_work_185 rfl ?_
                refine V_aload_n 187 1 rfl _ rfl rfl dX11_work_186 rfl ?_
                refine V_getI 190 69 11 34 (nI (3 * n2)) H34 flX11_299 rfl rfl rfl (by decide) dX11_work_187 rfl ?_
                refine V_callV (K' := 0) (S' := 0) 193 69 11 2 [.int 0, .int (nI (3 * n2))] mkX11_goesSteps lkX11_335 (by decide) rfl rfl (by decide) rfl (Nat.le_of_ble_eq_true rfl) (Nat.le_of_ble_eq_true rfl) (Nat.le_of_ble_eq_true rfl) (Nat.le_of_ble_eq_true rfl) rfl rfl dX11_work_190 rfl (c_X11_run 6 (d + 899) H R J _ n2 0 n2 (s.D, 0, 0, 0) 0 (nI (3 * n2)) (by omega) rfl rfl hMX m7 hEI hCh (Nat.zero_le _) (Nat.le_refl _) H37 H38 H39 (fun I5 hD5 h375 h385 h395 hF5 => ?_))
                refine Kq_v (k' := 0) (sl' := 0) rfl rfl ?_
                refine V_aload_n 194 1 rfl _ rfl rfl dX11_work_193 rfl ?_
                refine V_aload_n 195 1 rfl _ rfl rfl dX11_work_194 rfl ?_
                refine V_getR 198 69 11 41 89 (hRM 41) flX11_74 rfl rfl rfl (by decide) dX11_work_195 rfl ?_
                refine V_aload_n 199 1 rfl _ rfl rfl dX11_work_198 rfl ?_
                refine V_getR 202 69 11 40 88 (hRM 40) flX11_71 rfl rfl rfl (by decide) dX11_work_199 rfl ?_
                refine V_bipush 204 (51) rfl dX11_work_202 rfl ?_
                refine V_callV (K' := 0) (S' := 0) 207 69 11 3 [rf G 89, rf G 88, .int 51] mkX11_copies lkX11_184 (by decide) rfl rfl (by decide) rfl (Nat.le_of_ble_eq_true rfl) (Nat.le_of_ble_eq_true rfl) (Nat.le_of_ble_eq_true rfl) (Nat.le_of_ble_eq_true rfl) rfl rfl dX11_work_204 rfl (c_X11_copies_89_88 (z := 51) hRM (by decide) ?_)
                refine Kq_v (k' := 0) (sl' := 0) rfl rfl ?_
                obtain ⟨P, eP⟩ : ∃ P, P = upA I5 88 (cpF (I5 89) (I5 88) 51) := ⟨_, rfl⟩
                rw [← eP]
                have P38 : P 69 38 = nI (woE s n2 S2).2.2.1 := by rw [eP, upA_n (by decide)]; exact h385
                have P39 : P 69 39 = nI (woE s n2 S2).2.2.2 := by rw [eP, upA_n (by decide)]; exact h395
                refine V_aload_n 208 1 rfl _ rfl rfl dX11_work_207 rfl ?_
                refine V_aload_n 209 1 rfl _ rfl rfl dX11_work_208 rfl ?_
                refine V_getI 212 69 11 39 (nI (woE s n2 S2).2.2.2) P39 flX11_332 rfl rfl rfl (by decide) dX11_work_209 rfl ?_
                refine V_putI 215 69 11 36 flX11_200 rfl rfl rfl (by decide) rfl dX11_work_212 rfl ?_
                obtain ⟨U, eU⟩ : ∃ U, U = up2 P 69 36 (nI (woE s n2 S2).2.2.2) := ⟨_, rfl⟩
                rw [← eU]
                have U1 : ∀ a, a ≠ 69 → U a = P a := fun a h => by rw [eU]; exact up2_n _ _ _ h
                have U2 : ∀ j, j ≠ 36 → U 69 j = P 69 j := fun j h => by rw [eU, up2_s, upd_n h]
                have U36 : U 69 36 = nI (woE s n2 S2).2.2.2 := by rw [eU, up2_s]; exact upd_s
                have Ua : ∀ a, a ≠ 69 → a ≠ 84 → a ≠ 85 → a ≠ 88 → a ≠ 89 → a ≠ 90 → a ≠ 91 → a ≠ 86 → a ≠ 87 → U a = I0 a := fun a h0 h1 h2 h3 h4 h5 h6 h7 h8 => by rw [U1 a h0, eP, upA_n h3, hF5.1 a h0 h1 h2 h4 h6, HC a h0 h5 h4]; exact C1 a h0 h7 h8
                have Uj : ∀ j, j ≠ 36 → j ≠ 54 → j ≠ 37 → j ≠ 38 → j ≠ 39 → U 69 j = H 69 j := fun j h0 h1 h2 h3 h4 => by rw [U2 j h0, eP, upA_n (by decide)]; exact hF5.2 j h1 h2 h3 h4
                have UJ : ∀ j, j ≠ 36 → j ≠ 54 → j ≠ 2 → j ≠ 3 → j ≠ 4 → j ≠ 5 → j ≠ 6 → j ≠ 7 → j ≠ 8 → j ≠ 34 → j ≠ 35 → j ≠ 37 → j ≠ 38 → j ≠ 39 → U 69 j = I0 69 j := fun j h0 h1 h2 h3 h4 h5 h6 h7 h8 h9 h10 h11 h12 h13 => by rw [Uj j h0 h1 h11 h12 h13]; exact HJ j h2 h3 h4 h5 h6 h7 h8 h9 h10 h11 h12 h13
                have U38 : U 69 38 = nI (woE s n2 S2).2.2.1 := by rw [U2 38 (by decide)]; exact P38
                have U88 : ∀ k, k < 51 → U 88 k = (woE s n2 S2).1 k := fun k hk => by rw [U1 88 (by decide), eP, upA_s]; exact (if_pos hk).trans (hD5 k hk)
                have U90 : U 90 = g := by rw [U1 90 (by decide), eP, upA_n (by decide), hF5.1 90 (by decide) (by decide) (by decide) (by decide) (by decide), H1 90 (by decide), hT4 90 (by decide)]; exact E90
                have U35 : U 69 35 = nI (s.wn + 1) := by rw [Uj 35 (by decide) (by decide) (by decide) (by decide) (by decide), H2 35 (by decide) (by decide) (by decide)]; exact E35
                have U8 : U 69 8 = -1 := by rw [Uj 8 (by decide) (by decide) (by decide) (by decide) (by decide), H2 8 (by decide) (by decide) (by decide), E2 8 (by decide), C69]; exact A8
                have Ut : U 69 2 = 0 := by rw [Uj 2 (by decide) (by decide) (by decide) (by decide) (by decide), H2 2 (by decide) (by decide) (by decide), E2 2 (by decide), C69, A2 2 (by decide) (by decide) (by decide) (by decide) (by decide)]; exact z3
                have hf : SM U R (woS s n2 S2) := by
                  refine ⟨⟨hRM, m2.fr (UJ 21 (by decide) (by decide) (by decide) (by decide) (by decide) (by decide) (by decide) (by decide) (by decide) (by decide) (by decide) (by decide) (by decide) (by decide)) (UJ 22 (by decide) (by decide) (by decide) (by decide) (by decide) (by decide) (by decide) (by decide) (by decide) (by decide) (by decide) (by decide) (by decide) (by decide)) (UJ 23 (by decide) (by decide) (by decide) (by decide) (by decide) (by decide) (by decide) (by decide) (by decide) (by decide) (by decide) (by decide) (by decide) (by decide)) (fun a q1 q2 => Ua a (by omega) (by omega) (by omega) (by omega) (by omega) (by omega) (by omega) (by omega) (by omega)), m3, U88, hok.1.1, m6.fr (UJ 30 (by decide) (by decide) (by decide) (by decide) (by decide) (by decide) (by decide) (by decide) (by decide) (by decide) (by decide) (by decide) (by decide) (by decide)) (Ua 82 (by decide) (by decide) (by decide) (by decide) (by decide) (by decide) (by decide) (by decide) (by decide)) (Ua 83 (by decide) (by decide) (by decide) (by decide) (by decide) (by decide) (by decide) (by decide) (by decide)), m7⟩, ⟨Ut, ?_, U8⟩, ⟨?_, ?_⟩, ⟨U35, ?_, fun j hj k hk => ?_, ?_⟩, U36, ?_, ?_⟩
                  · rw [Ua 71 (by decide) (by decide) (by decide) (by decide) (by decide) (by decide) (by decide) (by decide) (by decide)]; exact t2
                  · rw [UJ 46 (by decide) (by decide) (by decide) (by decide) (by decide) (by decide) (by decide) (by decide) (by decide) (by decide) (by decide) (by decide) (by decide) (by decide)]; exact b1
                  · rw [Ua 93 (by decide) (by decide) (by decide) (by decide) (by decide) (by decide) (by decide) (by decide) (by decide)]; exact b2
                  · rw [UJ 56 (by decide) (by decide) (by decide) (by decide) (by decide) (by decide) (by decide) (by decide) (by decide) (by decide) (by decide) (by decide) (by decide) (by decide)]; exact p2
                  · have hj1 : j < s.wn + 1 := hj
                    show U 90 (51 * j + k) = (if j = s.wn then s.D else s.W j) k
                    rw [U90]
                    by_cases q : j = s.wn
                    · subst q; rw [if_pos rfl]; exact h1 k hk
                    · rw [if_neg q, h2 _ (by omega), C1 90 (by decide) (by decide) (by decide)]; exact p3 j (by omega) k hk
                  · rw [Ua 101 (by decide) (by decide) (by decide) (by decide) (by decide) (by decide) (by decide) (by decide) (by decide)]; exact p4
                  · rw [Ua 70 (by decide) (by decide) (by decide) (by decide) (by decide) (by decide) (by decide) (by decide) (by decide)]; exact r2
                  · rw [Ua 70 (by decide) (by decide) (by decide) (by decide) (by decide) (by decide) (by decide) (by decide) (by decide)]; exact r3
                refine V_aload_n 216 1 rfl _ rfl rfl dX11_work_215 rfl ?_
                refine V_getI 219 69 11 38 (nI (woE s n2 S2).2.2.1) U38 flX11_329 rfl rfl rfl (by decide) dX11_work_216 rfl ?_
                refine V_ret_i rfl rfl (Nat.le_of_ble_eq_true rfl) (fun h => absurd h (by decide)) (Nat.le_of_ble_eq_true rfl) (hq U hf (fun a ha => by rw [Ua a (by omega) (by omega) (by omega) (by omega) (by omega) (by omega) (by omega) (by omega) (by omega)]; exact i0 a (by omega)) (by rw [UJ 0 (by decide) (by decide) (by decide) (by decide) (by decide) (by decide) (by decide) (by decide) (by decide) (by decide) (by decide) (by decide) (by decide) (by decide)]; exact ht) (by rw [Ua 102 (by decide) (by decide) (by decide) (by decide) (by decide) (by decide) (by decide) (by decide) (by decide)]; exact i0 102 (by decide))) dX11_work_219
              · refine V_iload_n 124 0 rfl rfl dX11_work_123 rfl ?_
                refine V_bipush 126 (51) rfl dX11_work_124 rfl ?_
                refine V_icmp_ge 155 129 rfl dX11_work_126 rfl (fun c126 => absurd c126 (nI_ge hi (by decide))) (fun c126 => ?_)
                refine V_aload_n 130 1 rfl _ rfl rfl dX11_work_129 rfl ?_
                refine V_getR 133 69 11 42 90 (hRM 42) flX11_77 rfl rfl rfl (by decide) dX11_work_130 rfl ?_
                refine V_bipush 135 (51) rfl dX11_work_133 rfl ?_
                refine V_aload_n 136 1 rfl _ rfl rfl dX11_work_135 rfl ?_
                refine V_getI 139 69 11 35 (nI s.wn) (by rw [upA_n (by decide)]; exact C35) flX11_194 rfl rfl rfl (by decide) dX11_work_136 rfl ?_
                refine V_imul 140 dX11_work_139 rfl ?_
                refine V_rw (pk_mul 51 s.wn) ?_
                refine V_iload_n 141 0 rfl rfl dX11_work_140 rfl ?_
                refine V_iadd 142 dX11_work_141 rfl ?_
                refine V_rw (nI_add (51 * s.wn) i) ?_
                refine V_aload_n 143 1 rfl _ rfl rfl dX11_work_142 rfl ?_
                refine V_getR 146 69 11 40 88 (hRM 40) flX11_71 rfl rfl rfl (by decide) dX11_work_143 rfl ?_
                refine V_iload_n 147 0 rfl rfl dX11_work_146 rfl ?_
                refine V_ialdN 148 88 51 i (s.D i) (by rw [upA_n (by decide)]; exact C88 i hi) (by omega) (by decide) rfl (by decide) dX11_work_147 rfl ?_
                refine V_iastN 149 90 816 (51 * s.wn + i) (by omega) (by decide) rfl (by decide) dX11_work_148 rfl ?_
                rw [upA_u]
                refine V_iinc 152 0 rfl (nI (i + 1)) [(3, .int (nI (i + 1))), (0, rf G 69)] (nI_1 _) (by decide) rfl dX11_work_149 rfl ?_
                refine V_goto 123 rfl dX11_work_152 ?_
                exact V_lv [0, 1] rfl (ih _ (fun k hk => by
                    by_cases q : k = i
                    · subst q; exact upd_s
                    · rw [upd_n (by omega)]; exact h1 k (by omega)) (fun j hj => by rw [upd_n (by omega)]; exact h2 j hj))
            refine V_rwI (upA_self (b := 90)) ?_
            exact V_lv [0, 2] rfl (L 0 (Nat.zero_le _) _ (fun k hk => absurd hk (Nat.not_lt_zero _)) (fun j hj => rfl))
          have go : ∀ f n S a I1, z - sk s.t z a < f → a ≤ z → 5 * n ≤ sk s.t z a → I1 69 34 = nI (3 * n) → StM I1 0 n S → FrV B0 I1 → wkF s.t z s.K = pTo (pSs (pLv s.t z s.K 6) s.t z) z f n S (sk s.t z a) → V G mX11_work (d + 900) 0 0 0 0 68 [(0, rf G 69)] [] 103 (lx (ox I1 0) a (-1) kk) R J Q := by
            intro f
            induction f with
            | zero => intro n S a I1 h; omega
            | succ f ih =>
              intro n S a I1 hf ha hn h34 hR hF eq
              rw [pTo] at eq
              have hTx : TxM (ox I1 0) s.t z := (hF.T hTB).fr (ox_69 (by decide)) (ox_n (by decide))
              have hCx := hF.C hCB
              obtain ⟨k1, k2, k3⟩ := sk_z (t := s.t) ha
              refine V_aload_n 69 0 rfl _ rfl rfl dX11_work_68 rfl ?_
              refine V_callV (K' := 0) (S' := 0) 72 69 11 0 [] mkX11_fine lkX11_152 (by decide) rfl rfl (by decide) rfl (Nat.le_of_ble_eq_true rfl) (Nat.le_of_ble_eq_true rfl) (Nat.le_of_ble_eq_true rfl) (Nat.le_of_ble_eq_true rfl) rfl rfl dX11_work_69 rfl (c_X11_fine (fun y1 => ?_) (fun y0 => absurd rfl y0))
              refine Kq_i (k' := 0) (sl' := 0) rfl rfl ?_
              refine V_if_eq 89 75 rfl dX11_work_72 rfl (fun c72 => absurd c72 (by decide)) (fun c72 => ?_)
              refine V_aload_n 76 0 rfl _ rfl rfl dX11_work_75 rfl ?_
              refine V_callV (K' := 0) (S' := 0) 79 69 11 0 [] mkX11_isMore lkX11_224 (by decide) rfl rfl (by decide) rfl (Nat.le_of_ble_eq_true rfl) (Nat.le_of_ble_eq_true rfl) (Nat.le_of_ble_eq_true rfl) (Nat.le_of_ble_eq_true rfl) rfl rfl dX11_work_76 rfl (c_X11_isMore hRM hTx ha (fun m1 => ?_) (fun m0 => ?_))
              · refine Kq_i (k' := 0) (sl' := 0) rfl rfl ?_
                rw [if_neg (by omega)] at eq
                have esk : sk s.t z (sk s.t z a) = sk s.t z a := sk_sk ha
                refine V_if_eq 89 82 rfl dX11_work_79 rfl (fun c79 => absurd c79 (by decide)) (fun c79 => ?_)
                refine V_aload_n 83 0 rfl _ rfl rfl dX11_work_82 rfl ?_
                refine V_callV (K' := 0) (S' := 0) 86 69 11 0 [] mkX11_readStep lkX11_320 (by decide) rfl rfl (by decide) rfl (Nat.le_of_ble_eq_true rfl) (Nat.le_of_ble_eq_true rfl) (Nat.le_of_ble_eq_true rfl) (Nat.le_of_ble_eq_true rfl) rfl rfl dX11_work_83 rfl (c_X11_step 6 (Nat.le_refl _) _ _ _ _ _ (sk s.t z a) n S _ (by omega) hRM (hF.T hTB) hzm hCx m3 k2 (by rw [esk]; exact hn) h34 (fun n2 S2 pp2 I2 a2 eu h342 hR2 hE2 hF2 ha2 hsk2 => ?_) (fun kd2 q2 I2 a2 eu hk2 hk3 hq2 hF2 ha2 => ?_))
                · refine Kq_v (k' := 0) (sl' := 0) rfl rfl ?_
                  rw [esk] at eu
                  rw [bd_ok eu] at eq
                  obtain ⟨a1, a2x, a3, a4, a5, a6, a7⟩ := pSs_ok (pLv_ok 6) n S _ _ _ _ k2 eu
                  rw [← hsk2] at eq
                  refine V_goto 68 rfl dX11_work_86 ?_
                  exact V_lv [0] rfl (ih n2 S2 a2 I2 (by omega) ha2 (by omega) h342 (hR.join hR2 hE2 a5) (hF.tr hF2) eq)
                · refine Kq_v (k' := 0) (sl' := 0) rfl rfl ?_
                  rw [esk] at eu
                  rw [bd_no eu] at eq
                  refine V_goto 68 rfl dX11_work_86 ?_
                  refine V_aload_n 69 0 rfl _ rfl rfl dX11_work_68 rfl ?_
                  refine V_callV (K' := 0) (S' := 0) 72 69 11 0 [] mkX11_fine lkX11_152 (by decide) rfl rfl (by decide) rfl (Nat.le_of_ble_eq_true rfl) (Nat.le_of_ble_eq_true rfl) (Nat.le_of_ble_eq_true rfl) (Nat.le_of_ble_eq_true rfl) rfl rfl dX11_work_69 rfl (c_X11_fine (fun y1 => absurd y1 (nI_ne (j := q2) (by omega))) (fun y0 => ?_))
                  refine Kq_i (k' := 0) (sl' := 0) rfl rfl ?_
                  refine V_if_eq 89 75 rfl dX11_work_72 rfl (fun c72 => ?_) (fun c72 => absurd c72 (by decide))
                  exact V_lv [0] rfl (bad kd2 q2 a2 I2 eq hq2 (hF.tr hF2))
              · refine Kq_i (k' := 0) (sl' := 0) rfl rfl ?_
                rw [if_pos (by omega)] at eq
                refine V_if_eq 89 82 rfl dX11_work_79 rfl (fun c79 => ?_) (fun c79 => absurd c79 (by decide))
                exact V_lv [0] rfl (good n _ _ S I1 eq h34 hR hF)
          exact V_lv [0] rfl (go (z + 1) 0 S0 0 B0 (by omega) (Nat.zero_le _) (Nat.zero_le _) b34 (fun i _ h => absurd h (Nat.not_lt_zero _)) FrV.rf rfl)
        · refine V_aload_n 55 0 rfl _ rfl rfl dX11_work_54 rfl ?_
          refine V_iconst 56 (0) rfl dX11_work_55 rfl ?_
          refine V_callV (K' := 0) (S' := 0) 59 69 11 1 [.int 0] mkX11_result lkX11_245 (by decide) rfl rfl (by decide) rfl (Nat.le_of_ble_eq_true rfl) (Nat.le_of_ble_eq_true rfl) (Nat.le_of_ble_eq_true rfl) (Nat.le_of_ble_eq_true rfl) rfl rfl dX11_work_56 rfl (c_X11_result (fun y1 => ?_) (fun y0 => absurd B5 y0))
          refine Kq_i (k' := 0) (sl' := 0) rfl rfl ?_
          rw [workT_f s4 hz hzm ((nI_eq (b := 16) (by omega) (by decide)).mp (by first | exact c51 | exact Classical.not_not.mp c51))] at hq
          obtain ⟨A, eA⟩ : ∃ A, A = up2 B 69 8 (B 69 5) := ⟨_, rfl⟩
          refine V_rwI (show _ = A from eA.symm) ?_
          have hf := fr (A := A) (fun a h1 _ _ _ _ _ => by rw [eA, up2_n _ _ _ h1]; exact B1 a h1) (fun j h2 h3 h4 h5 h6 h7 h8 _ _ _ _ _ => by rw [eA, up2_s, upd_n h8, eB]; exact Bg_69 h2 h3 h4 h5 h7 h8) (by rw [eA, up2_s, upd_n (by decide), eB]; exact Bg_2) (-1) (by rw [eA, up2_s, upd_s]; exact B5)
          refine V_pop 60 rfl dX11_work_59 rfl ?_
          refine V_bipush 62 (-20) rfl dX11_work_60 rfl ?_
          refine V_ret_i rfl rfl (Nat.le_of_ble_eq_true rfl) (fun h => absurd h (by decide)) (Nat.le_of_ble_eq_true rfl) (hq A hf.1 hf.2.1 hf.2.2.1 hf.2.2.2) dX11_work_62
