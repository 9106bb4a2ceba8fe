/-! ===== the reference: feed, undo, images, counts ===== -/
theorem SM.fr {I I' : FI} {R : FR} {s : SG} {tn' : Nat} {fl' : Int32} (h : SM I R s) (g : ∀ a, (a = 70 ∨ a = 71 ∨ (76 ≤ a ∧ a ≤ 79) ∨ a = 82 ∨ a = 83 ∨ a = 88 ∨ a = 90 ∨ a = 93 ∨ a = 101) → I' a = I a) (z : ∀ j, (j = 21 ∨ j = 22 ∨ j = 23 ∨ j = 30 ∨ j = 35 ∨ j = 36 ∨ j = 46 ∨ j = 56) → I' 69 j = I 69 j) (h2 : I' 69 2 = nI tn') (h8 : I' 69 8 = fl') : SM I' R (mkS s.K s.f s.D s.t tn' s.nb s.bk s.wn s.W s.mn s.M s.mw s.MW s.rs fl' s.mi s.wr) := by
  obtain ⟨⟨m1, m2, m3, m4, m5, m6, m7⟩, ⟨t1, t2, t3⟩, ⟨b1, b2⟩, ⟨p1, p2, p3, p4⟩, r1, r2, r3⟩ := h
  refine ⟨⟨m1, m2.fr (z 21 (by decide)) (z 22 (by decide)) (z 23 (by decide)) (fun a q1 q2 => g a (by omega)), m3, fun k hk => by rw [g 88 (by decide)]; exact m4 k hk, m5, m6.fr (z 30 (by decide)) (g 82 (by decide)) (g 83 (by decide)), m7⟩, ⟨h2, ?_, h8⟩, ⟨?_, ?_⟩, ⟨?_, ?_, ?_, ?_⟩, ?_, ?_, ?_⟩
  · rw [g 71 (by decide)]; exact t2
  · rw [z 46 (by decide)]; exact b1
  · rw [g 93 (by decide)]; exact b2
  · rw [z 35 (by decide)]; exact p1
  · rw [z 56 (by decide)]; exact p2
  · rw [g 90 (by decide)]; exact p3
  · rw [g 101 (by decide)]; exact p4
  · rw [z 36 (by decide)]; exact r1
  · rw [g 70 (by decide)]; exact r2
  · rw [g 70 (by decide)]; exact r3
theorem c_X11_status {G : Gx} {d : Nat} {I : FI} {R : FR} {J : FJ} {Q : Po} {s : SG} (hX : SM I R s) (hS : SI s) {x : Int32} {cd : Nat} (hq : HR I R J Q cd (statT s x)) : Cc G mX11_status (d + 900) 0 0 [rf G 69, .int x] 103 I R J Q := by
  obtain ⟨I0, hI0⟩ : ∃ I0, I0 = up2 I 69 0 0 := ⟨_, rfl⟩
  have hz := FrM.z hI0
  have hX0 := hX.q hz
  obtain ⟨⟨hRM, m2, m3, m4, m5, m6, m7⟩, ⟨t1, t2, t3⟩, ⟨b1, b2⟩, ⟨p1, p2, p3, p4⟩, r1, r2, r3⟩ := id hX0
  obtain ⟨s1, s2, s3, s4, s5, s6, s7, s8, s9, s10⟩ := hS
  have ht : I0 69 0 = 0 := hz.2.1
  have i0 : ∀ a, a ≠ 69 → I0 a = I a := fun a h => by rw [hI0]; exact up2_n _ _ _ h
  replace hq : Q (.inl (some (.int (if x = 0 then s.mi else if x = 1 then s.wr else -1)))) 103 I0 R J := hq I0 hX0 (fun a ha => i0 a (by omega)) ht (i0 102 (by decide))
  show V _ _ _ _ _ _ _ _ [(0, rf G 69), (1, .int x)] [] _ _ _ _ _
  refine V_aload_n 1 0 rfl _ rfl rfl dX11_status_0 rfl ?_
  refine V_iconst 2 (0) rfl dX11_status_1 rfl ?_
  refine V_putI 5 69 11 0 flX11_3 rfl rfl rfl (by decide) rfl dX11_status_2 rfl ?_
  rw [← hI0]
  refine V_iload_n 6 1 rfl rfl dX11_status_5 rfl ?_
  refine V_iconst 7 (0) rfl dX11_status_6 rfl ?_
  refine V_iconst 8 (1) rfl dX11_status_7 rfl ?_
  refine V_callS (K' := 0) (S' := 0) 11 3 [.int x, .int 0, .int 1] mkX11_within lkX11_383 rfl (Nat.le_of_ble_eq_true rfl) (Nat.le_of_ble_eq_true rfl) (Nat.le_of_ble_eq_true rfl) (Nat.le_of_ble_eq_true rfl) rfl rfl dX11_status_8 rfl (c_X11_within (fun a8 b8 => ?_) (fun a8 => ?_))
  · refine Kq_i (k' := 0) (sl' := 0) rfl rfl ?_
    obtain ⟨j, hj, rfl⟩ := in_nI (n := 1) (by decide) a8 b8
    have hq2 : Q (.inl (some (.int (I0 70 j)))) 103 I0 R J := by
      rcases (show j = 0 ∨ j = 1 by omega) with rfl | rfl
      · rw [if_pos (show nI 0 = 0 from rfl)] at hq; rw [r2]; exact hq
      · rw [if_neg (by decide), if_pos (show nI 1 = 1 from rfl)] at hq; rw [r3]; exact hq
    refine V_if_eq 23 14 rfl dX11_status_11 rfl (fun c11 => absurd c11 (by decide)) (fun c11 => ?_)
    refine V_aload_n 15 0 rfl _ rfl rfl dX11_status_14 rfl ?_
    refine V_getR 18 69 11 1 70 (hRM 1) flX11_7 rfl rfl rfl (by decide) dX11_status_15 rfl ?_
    refine V_iload_n 19 1 rfl rfl dX11_status_18 rfl ?_
    refine V_ialdN 20 70 2 j (I0 70 j) rfl (by omega) (by decide) rfl (by decide) dX11_status_19 rfl ?_
    refine V_goto 24 rfl dX11_status_20 ?_
    refine V_ret_i rfl rfl (Nat.le_of_ble_eq_true rfl) (fun h => absurd h (by decide)) (Nat.le_of_ble_eq_true rfl) (hq2) dX11_status_24
  · refine Kq_i (k' := 0) (sl' := 0) rfl rfl ?_
    rw [if_neg (fun e => a8 (by rw [e]; decide)), if_neg (fun e => a8 (by rw [e]; decide))] at hq
    refine V_if_eq 23 14 rfl dX11_status_11 rfl (fun c11 => ?_) (fun c11 => absurd c11 (by decide))
    refine V_iconst 24 (-1) rfl dX11_status_23 rfl ?_
    refine V_ret_i rfl rfl (Nat.le_of_ble_eq_true rfl) (fun h => absurd h (by decide)) (Nat.le_of_ble_eq_true rfl) (hq) dX11_status_24
theorem c_X11_count {G : Gx} {d : Nat} {I : FI} {R : FR} {J : FJ} {Q : Po} {s : SG} (hX : SM I R s) (hS : SI s) {x : Int32} {cd : Nat} (hq : HR I R J Q cd (cntT s x)) : Cc G mX11_count (d + 900) 0 0 [rf G 69, .int x] 103 I R J Q := by
  obtain ⟨I0, hI0⟩ : ∃ I0, I0 = up2 I 69 0 0 := ⟨_, rfl⟩
  have hz := FrM.z hI0
  have hX0 := hX.q hz
  obtain ⟨⟨hRM, m2, m3, m4, m5, m6, m7⟩, ⟨t1, t2, t3⟩, ⟨b1, b2⟩, ⟨p1, p2, p3, p4⟩, r1, r2, r3⟩ := id hX0
  obtain ⟨s1, s2, s3, s4, s5, s6, s7, s8, s9, s10⟩ := hS
  have ht : I0 69 0 = 0 := hz.2.1
  have i0 : ∀ a, a ≠ 69 → I0 a = I a := fun a h => by rw [hI0]; exact up2_n _ _ _ h
  replace hq : Q (.inl (some (.int (if x = 0 then nI s.mn else if x = 1 then nI s.tn else if x = 2 then nI s.wn else -1)))) 103 I0 R J := hq I0 hX0 (fun a ha => i0 a (by omega)) ht (i0 102 (by decide))
  show V _ _ _ _ _ _ _ _ [(0, rf G 69), (1, .int x)] [] _ _ _ _ _
  refine V_aload_n 1 0 rfl _ rfl rfl dX11_count_0 rfl ?_
  refine V_iconst 2 (0) rfl dX11_count_1 rfl ?_
  refine V_putI 5 69 11 0 flX11_3 rfl rfl rfl (by decide) rfl dX11_count_2 rfl ?_
  rw [← hI0]
  refine V_iload_n 6 1 rfl rfl dX11_count_5 rfl ?_
  refine V_if_ne 16 9 rfl dX11_count_6 rfl (fun c6 => ?_) (fun c6 => ?_)
  · refine V_iload_n 17 1 rfl rfl dX11_count_16 rfl ?_
    refine V_iconst 18 (1) rfl dX11_count_17 rfl ?_
    refine V_icmp_ne 28 21 rfl dX11_count_18 rfl (fun c18 => ?_) (fun c18 => ?_)
    · refine V_iload_n 29 1 rfl rfl dX11_count_28 rfl ?_
      refine V_iconst 30 (2) rfl dX11_count_29 rfl ?_
      refine V_icmp_ne 40 33 rfl dX11_count_30 rfl (fun c30 => ?_) (fun c30 => ?_)
      · refine V_iconst 41 (-1) rfl dX11_count_40 rfl ?_
        refine V_ret_i rfl rfl (Nat.le_of_ble_eq_true rfl) (fun h => absurd h (by decide)) (Nat.le_of_ble_eq_true rfl) (by rw [if_neg c6, if_neg c18, if_neg c30] at hq; exact hq) dX11_count_41
      · refine V_aload_n 34 0 rfl _ rfl rfl dX11_count_33 rfl ?_
        refine V_getI 37 69 11 35 (nI s.wn) p1 flX11_194 rfl rfl rfl (by decide) dX11_count_34 rfl ?_
        refine V_goto 41 rfl dX11_count_37 ?_
        refine V_ret_i rfl rfl (Nat.le_of_ble_eq_true rfl) (fun h => absurd h (by decide)) (Nat.le_of_ble_eq_true rfl) (by rw [if_neg c6, if_neg c18, if_pos (by first | exact c30 | exact Classical.not_not.mp c30)] at hq; exact hq) dX11_count_41
    · refine V_aload_n 22 0 rfl _ rfl rfl dX11_count_21 rfl ?_
      refine V_getI 25 69 11 2 (nI s.tn) t1 flX11_120 rfl rfl rfl (by decide) dX11_count_22 rfl ?_
      refine V_goto 41 rfl dX11_count_25 ?_
      refine V_ret_i rfl rfl (Nat.le_of_ble_eq_true rfl) (fun h => absurd h (by decide)) (Nat.le_of_ble_eq_true rfl) (by rw [if_neg c6, if_pos (by first | exact c18 | exact Classical.not_not.mp c18)] at hq; exact hq) dX11_count_41
  · refine V_aload_n 10 0 rfl _ rfl rfl dX11_count_9 rfl ?_
    refine V_getI 13 69 11 56 (nI s.mn) p2 flX11_197 rfl rfl rfl (by decide) dX11_count_10 rfl ?_
    refine V_goto 41 rfl dX11_count_13 ?_
    refine V_ret_i rfl rfl (Nat.le_of_ble_eq_true rfl) (fun h => absurd h (by decide)) (Nat.le_of_ble_eq_true rfl) (by rw [if_pos (by first | exact c6 | exact Classical.not_not.mp c6)] at hq; exact hq) dX11_count_41
theorem c_X11_fault {G : Gx} {d : Nat} {I : FI} {R : FR} {J : FJ} {Q : Po} {s : SG} (hX : SM I R s) (hS : SI s) {cd : Nat} (hq : HR I R J Q cd (fltT s)) : Cc G mX11_fault (d + 900) 0 0 [rf G 69] 103 I R J Q := by
  obtain ⟨I0, hI0⟩ : ∃ I0, I0 = up2 I 69 0 0 := ⟨_, rfl⟩
  have hz := FrM.z hI0
  have hX0 := hX.q hz
  obtain ⟨⟨hRM, m2, m3, m4, m5, m6, m7⟩, ⟨t1, t2, t3⟩, ⟨b1, b2⟩, ⟨p1, p2, p3, p4⟩, r1, r2, r3⟩ := id hX0
  obtain ⟨s1, s2, s3, s4, s5, s6, s7, s8, s9, s10⟩ := hS
  have ht : I0 69 0 = 0 := hz.2.1
  have i0 : ∀ a, a ≠ 69 → I0 a = I a := fun a h => by rw [hI0]; exact up2_n _ _ _ h
  replace hq : Q (.inl (some (.int s.fl))) 103 I0 R J := hq I0 hX0 (fun a ha => i0 a (by omega)) ht (i0 102 (by decide))
  show V _ _ _ _ _ _ _ _ [(0, rf G 69)] [] _ _ _ _ _
  refine V_aload_n 1 0 rfl _ rfl rfl dX11_fault_0 rfl ?_
  refine V_iconst 2 (0) rfl dX11_fault_1 rfl ?_
  refine V_putI 5 69 11 0 flX11_3 rfl rfl rfl (by decide) rfl dX11_fault_2 rfl ?_
  rw [← hI0]
  refine V_aload_n 6 0 rfl _ rfl rfl dX11_fault_5 rfl ?_
  refine V_getI 9 69 11 8 s.fl t3 flX11_17 rfl rfl rfl (by decide) dX11_fault_6 rfl ?_
  refine V_ret_i rfl rfl (Nat.le_of_ble_eq_true rfl) (fun h => absurd h (by decide)) (Nat.le_of_ble_eq_true rfl) (hq) dX11_fault_9
theorem c_X11_feed {G : Gx} {d : Nat} {I : FI} {R : FR} {J : FJ} {Q : Po} {s : SG} (hX : SM I R s) (hS : SI s) {v1 v2 v3 v4 v5 : Int32} {cd : Nat} (hq : HR I R J Q cd (feedT s v1 v2 v3 v4 v5)) : Cc G mX11_feed (d + 900) 0 0 [rf G 69, .int v1, .int v2, .int v3, .int v4, .int v5] 103 I R J Q := by
  obtain ⟨I0, hI0⟩ : ∃ I0, I0 = up2 I 69 0 0 := ⟨_, rfl⟩
  have hz := FrM.z hI0
  have hX0 := hX.q hz
  obtain ⟨⟨hRM, m2, m3, m4, m5, m6, m7⟩, ⟨t1, t2, t3⟩, ⟨b1, b2⟩, ⟨p1, p2, p3, p4⟩, r1, r2, r3⟩ := id hX0
  obtain ⟨s1, s2, s3, s4, s5, s6, s7, s8, s9, s10⟩ := hS
  have ht : I0 69 0 = 0 := hz.2.1
  have i0 : ∀ a, a ≠ 69 → I0 a = I a := fun a h => by rw [hI0]; exact up2_n _ _ _ h
  unfold feedT at hq
  show V _ _ _ _ _ _ _ _ [(0, rf G 69), (1, .int v1), (2, .int v2), (3, .int v3), (4, .int v4), (5, .int v5)] [] _ _ _ _ _
  by_cases c0 : 600 < s.tn + 20
  · rw [if_pos c0] at hq
    refine V_aload_n 1 0 rfl _ rfl rfl dX11_feed_0 rfl ?_
    refine V_iconst 2 (0) rfl dX11_feed_1 rfl ?_
    refine V_putI 5 69 11 0 flX11_3 rfl rfl rfl (by decide) rfl dX11_feed_2 rfl ?_
    rw [← hI0]
    refine V_aload_n 6 0 rfl _ rfl rfl dX11_feed_5 rfl ?_
    refine V_getI 9 69 11 2 (nI s.tn) t1 flX11_120 rfl rfl rfl (by decide) dX11_feed_6 rfl ?_
    refine V_bipush 11 (20) rfl dX11_feed_9 rfl ?_
    refine V_iadd 12 dX11_feed_11 rfl ?_
    refine V_rw (nI_add s.tn 20) ?_
    refine V_sipush 15 (600) rfl dX11_feed_12 rfl ?_
    refine V_icmp_le 20 18 rfl dX11_feed_15 rfl (fun c15 => absurd c15 (nI_ge (a := 600) c0 (by omega))) (fun c15 => ?_)
    refine V_iconst 19 (-1) rfl dX11_feed_18 rfl ?_
    refine V_ret_i rfl rfl (Nat.le_of_ble_eq_true rfl) (fun h => absurd h (by decide)) (Nat.le_of_ble_eq_true rfl) (hq I0 hX0 (fun a ha => i0 a (by omega)) ht (i0 102 (by decide))) dX11_feed_19
  · rw [if_neg c0] at hq
    obtain ⟨F, eF⟩ : ∃ F, F = ap4 (ap4 (ap4 (ap4 (ap4 s.t s.tn v1) (s.tn + 4) v2) (s.tn + 8) v3) (s.tn + 12) v4) (s.tn + 16) v5 := ⟨_, rfl⟩
    rw [← eF] at hq
    have F1 : ∀ i, i < 4 → byN v1 (i % 4) = F (s.tn + i) := fun i hi => by rw [eF, ap4_o (by omega), ap4_o (by omega), ap4_o (by omega), ap4_o (by omega), ap4_i (by omega) (by omega), show s.tn + i - s.tn = i % 4 by omega]
    have F2 : ∀ i, 4 ≤ i → i < 8 → byN v2 (i % 4) = F (s.tn + i) := fun i h4 hi => by rw [eF, ap4_o (by omega), ap4_o (by omega), ap4_o (by omega), ap4_i (by omega) (by omega), show s.tn + i - (s.tn + 4) = i % 4 by omega]
    have F3 : ∀ i, 8 ≤ i → i < 12 → byN v3 (i % 4) = F (s.tn + i) := fun i h4 hi => by rw [eF, ap4_o (by omega), ap4_o (by omega), ap4_i (by omega) (by omega), show s.tn + i - (s.tn + 8) = i % 4 by omega]
    have F4 : ∀ i, 12 ≤ i → i < 16 → byN v4 (i % 4) = F (s.tn + i) := fun i h4 hi => by rw [eF, ap4_o (by omega), ap4_i (by omega) (by omega), show s.tn + i - (s.tn + 12) = i % 4 by omega]
    have F5 : ∀ i, 16 ≤ i → i < 20 → byN v5 (i % 4) = F (s.tn + i) := fun i h4 hi => by rw [eF, ap4_i (by omega) (by omega), show s.tn + i - (s.tn + 16) = i % 4 by omega]
    have Fo : ∀ j, (j < s.tn ∨ s.tn + 20 ≤ j) → F j = s.t j := fun j hj => by rw [eF, ap4_o (by omega), ap4_o (by omega), ap4_o (by omega), ap4_o (by omega), ap4_o (by omega)]
    have go : ∀ (A : FI) (v : Int32) (i : Nat), i < 20 → ((∀ a, a ≠ 69 → a ≠ 71 → A a = I0 a) ∧ (∀ j, j ≠ 2 → A 69 j = I0 69 j) ∧ A 69 2 = nI (s.tn + i) ∧ ∀ j, j < 600 → A 71 j = nI (if s.tn ≤ j ∧ j < s.tn + i then F j else s.t j)) → byN v (i % 4) = F (s.tn + i) → ((∀ a, a ≠ 69 → a ≠ 71 → up2 (up2 A 71 (s.tn + i) (nI (byN v (i % 4)))) 69 2 (nI (s.tn + i + 1)) a = I0 a) ∧ (∀ j, j ≠ 2 → up2 (up2 A 71 (s.tn + i) (nI (byN v (i % 4)))) 69 2 (nI (s.tn + i + 1)) 69 j = I0 69 j) ∧ up2 (up2 A 71 (s.tn + i) (nI (byN v (i % 4)))) 69 2 (nI (s.tn + i + 1)) 69 2 = nI (s.tn + (i + 1)) ∧ ∀ j, j < 600 → up2 (up2 A 71 (s.tn + i) (nI (byN v (i % 4)))) 69 2 (nI (s.tn + i + 1)) 71 j = nI (if s.tn ≤ j ∧ j < s.tn + (i + 1) then F j else s.t j)) := by
      intro A v i hi ⟨h1, h2, h3, h4⟩ hv
      refine ⟨fun a q1 q2 => by rw [up2_n _ _ _ q1, up2_n _ _ _ q2]; exact h1 a q1 q2, fun j q => by rw [up2_s, upd_n q, up2_n _ _ _ (by decide)]; exact h2 j q, by rw [up2_s]; exact upd_s, fun j hj => ?_⟩
      rw [up2_n _ _ _ (by decide), up2_s]
      by_cases q : j = s.tn + i
      · subst q; rw [upd_s, if_pos (by omega), hv]
      · rw [upd_n q, h4 j hj]
        by_cases q2 : s.tn ≤ j ∧ j < s.tn + i
        · rw [if_pos q2, if_pos (by omega)]
        · rw [if_neg q2, if_neg (by omega)]
    have L : ∀ i, i ≤ 20 → ∀ A : FI, ((∀ a, a ≠ 69 → a ≠ 71 → A a = I0 a) ∧ (∀ j, j ≠ 2 → A 69 j = I0 69 j) ∧ A 69 2 = nI (s.tn + i) ∧ ∀ j, j < 600 → A 71 j = nI (if s.tn ≤ j ∧ j < s.tn + i then F j else s.t j)) → V G mX11_feed (d + 900) 0 0 0 0 23 [(6, .int (nI i)), (0, rf G 69), (1, .int v1), (2, .int v2), (3, .int v3), (4, .int v4), (5, .int v5)] [] 103 A R J Q := by
      refine loopd 20 (fun A hA => ?_) (fun i hi ih A hA => ?_)
      · obtain ⟨h1, h2, h3, h4⟩ := hA
        have hf : SM A R (mkS s.K s.f s.D F (s.tn + 20) s.nb s.bk s.wn s.W s.mn s.M s.mw s.MW s.rs s.fl s.mi s.wr) := by
          refine ⟨⟨hRM, m2.fr (h2 21 (by decide)) (h2 22 (by decide)) (h2 23 (by decide)) (fun a q1 q2 => h1 a (by omega) (by omega)), m3, fun k hk => by rw [h1 88 (by decide) (by decide)]; exact m4 k hk, m5, m6.fr (h2 30 (by decide)) (h1 82 (by decide) (by decide)) (h1 83 (by decide) (by decide)), m7⟩, ⟨h3, ?_, ?_⟩, ⟨?_, ?_⟩, ⟨?_, ?_, ?_, ?_⟩, ?_, ?_, ?_⟩
          · intro j hj
            rw [h4 j hj]
            show nI _ = nI (F j)
            by_cases q : s.tn ≤ j ∧ j < s.tn + 20
            · rw [if_pos q]
            · rw [if_neg q, Fo j (by omega)]
          · rw [h2 8 (by decide)]; exact t3
          · rw [h2 46 (by decide)]; exact b1
          · rw [h1 93 (by decide) (by decide)]; exact b2
          · rw [h2 35 (by decide)]; exact p1
          · rw [h2 56 (by decide)]; exact p2
          · rw [h1 90 (by decide) (by decide)]; exact p3
          · rw [h1 101 (by decide) (by decide)]; exact p4
          · rw [h2 36 (by decide)]; exact r1
          · rw [h1 70 (by decide) (by decide)]; exact r2
          · rw [h1 70 (by decide) (by decide)]; exact r3
        refine V_iload 25 0 rfl dX11_feed_23 rfl ?_
        refine V_bipush 27 (20) rfl dX11_feed_25 rfl ?_
        refine V_icmp_ge 120 30 rfl dX11_feed_27 rfl (fun c27 => ?_) (fun c27 => absurd (Int32.le_refl _) c27)
        refine V_aload_n 121 1 rfl _ rfl rfl dX11_feed_120 rfl ?_
        refine V_getI 124 69 11 2 (nI (s.tn + 20)) h3 flX11_120 rfl rfl rfl (by decide) dX11_feed_121 rfl ?_
        refine V_ret_i rfl rfl (Nat.le_of_ble_eq_true rfl) (fun h => absurd h (by decide)) (Nat.le_of_ble_eq_true rfl) (hq A hf (fun a ha => by rw [h1 a (by omega) (by omega)]; exact i0 a (by omega)) (by rw [h2 0 (by decide)]; exact ht) (by rw [h1 102 (by decide) (by decide)]; exact i0 102 (by decide))) dX11_feed_124
      · have h3 := hA.2.2.1
        refine V_iload 25 0 rfl dX11_feed_23 rfl ?_
        refine V_bipush 27 (20) rfl dX11_feed_25 rfl ?_
        refine V_icmp_ge 120 30 rfl dX11_feed_27 rfl (fun c27 => absurd c27 (nI_ge hi (by decide))) (fun c27 => ?_)
        refine V_iload 32 0 rfl dX11_feed_30 rfl ?_
        refine V_iconst 33 (4) rfl dX11_feed_32 rfl ?_
        refine V_icmp_ge 40 36 rfl dX11_feed_33 rfl (fun c33 => ?_) (fun c33 => ?_)
        · refine V_iload 42 0 rfl dX11_feed_40 rfl ?_
          refine V_bipush 44 (8) rfl dX11_feed_42 rfl ?_
          refine V_icmp_ge 51 47 rfl dX11_feed_44 rfl (fun c44 => ?_) (fun c44 => ?_)
          · refine V_iload 53 0 rfl dX11_feed_51 rfl ?_
            refine V_bipush 55 (12) rfl dX11_feed_53 rfl ?_
            refine V_icmp_ge 62 58 rfl dX11_feed_55 rfl (fun c55 => ?_) (fun c55 => ?_)
            · refine V_iload 64 0 rfl dX11_feed_62 rfl ?_
              refine V_bipush 66 (16) rfl dX11_feed_64 rfl ?_
              refine V_icmp_ge 74 69 rfl dX11_feed_66 rfl (fun c66 => ?_) (fun c66 => ?_)
              · refine V_iload 76 6 rfl dX11_feed_74 rfl ?_
                refine V_istore 78 [(7, .int v5), (6, .int (nI i)), (0, rf G 69), (1, .int v1), (2, .int v2), (3, .int v3), (4, .int v4), (5, .int v5)] (by decide) rfl dX11_feed_76 rfl ?_
                refine V_aload_n 79 2 rfl _ rfl rfl dX11_feed_78 rfl ?_
                refine V_getR 82 69 11 9 71 (hRM 9) flX11_20 rfl rfl rfl (by decide) dX11_feed_79 rfl ?_
                refine V_aload_n 83 2 rfl _ rfl rfl dX11_feed_82 rfl ?_
                refine V_getI 86 69 11 2 (nI (s.tn + i)) h3 flX11_120 rfl rfl rfl (by decide) dX11_feed_83 rfl ?_
                refine V_iload 88 0 rfl dX11_feed_86 rfl ?_
                refine V_bipush 90 (24) rfl dX11_feed_88 rfl ?_
                refine V_bipush 92 (8) rfl dX11_feed_90 rfl ?_
                refine V_iload 94 1 rfl dX11_feed_92 rfl ?_
                refine V_iconst 95 (4) rfl dX11_feed_94 rfl ?_
                refine V_irem 96 (by first | decide | omega) dX11_feed_95 rfl ?_
                refine V_rw (pk_rem (by omega) (by decide) (by decide)) ?_
                refine V_imul 97 dX11_feed_96 rfl ?_
                refine V_rw (pk_mul 8 (i % 4)) ?_
                refine V_isub 98 dX11_feed_97 rfl ?_
                refine V_rw (pk_sub (a := 24) (by omega)) ?_
                refine V_ishr 99 dX11_feed_98 rfl ?_
                refine V_sipush 102 (255) rfl dX11_feed_99 rfl ?_
                refine V_iand 103 dX11_feed_102 rfl ?_
                refine V_rw (by_m v5 (k := i % 4) (by omega) rfl) ?_
                refine V_iastN 104 71 600 (s.tn + i) (by first | decide | omega) (by decide) rfl (by decide) dX11_feed_103 rfl ?_
                refine V_aload_n 105 2 rfl _ rfl rfl dX11_feed_104 rfl ?_
                refine V_dup 106 rfl dX11_feed_105 rfl ?_
                refine V_getI 109 69 11 2 (nI (s.tn + i)) (by rw [up2_n _ _ _ (by decide)]; exact h3) flX11_120 rfl rfl rfl (by decide) dX11_feed_106 rfl ?_
                refine V_iconst 110 (1) rfl dX11_feed_109 rfl ?_
                refine V_iadd 111 dX11_feed_110 rfl ?_
                refine V_rw (nI_add (s.tn + i) 1) ?_
                refine V_putI 114 69 11 2 flX11_120 rfl rfl rfl (by decide) rfl dX11_feed_111 rfl ?_
                refine V_iinc 117 1 rfl (nI (i + 1)) [(6, .int (nI (i + 1))), (7, .int v5), (0, rf G 69), (1, .int v1), (2, .int v2), (3, .int v3), (4, .int v4), (5, .int v5)] (nI_1 _) (by decide) rfl dX11_feed_114 rfl ?_
                refine V_goto 23 rfl dX11_feed_117 ?_
                exact V_lv [0, 2, 3, 4, 5, 6, 7] rfl (ih _ (go A v5 i hi hA (F5 i ((nI_leI (a := 16) (by decide) (by omega)).mp c66) hi)))
              · refine V_iload 71 5 rfl dX11_feed_69 rfl ?_
                refine V_goto 76 rfl dX11_feed_71 ?_
                refine V_istore 78 [(7, .int v4), (6, .int (nI i)), (0, rf G 69), (1, .int v1), (2, .int v2), (3, .int v3), (4, .int v4), (5, .int v5)] (by decide) rfl dX11_feed_76 rfl ?_
                refine V_aload_n 79 2 rfl _ rfl rfl dX11_feed_78 rfl ?_
                refine V_getR 82 69 11 9 71 (hRM 9) flX11_20 rfl rfl rfl (by decide) dX11_feed_79 rfl ?_
                refine V_aload_n 83 2 rfl _ rfl rfl dX11_feed_82 rfl ?_
                refine V_getI 86 69 11 2 (nI (s.tn + i)) h3 flX11_120 rfl rfl rfl (by decide) dX11_feed_83 rfl ?_
                refine V_iload 88 0 rfl dX11_feed_86 rfl ?_
                refine V_bipush 90 (24) rfl dX11_feed_88 rfl ?_
                refine V_bipush 92 (8) rfl dX11_feed_90 rfl ?_
                refine V_iload 94 1 rfl dX11_feed_92 rfl ?_
                refine V_iconst 95 (4) rfl dX11_feed_94 rfl ?_
                refine V_irem 96 (by first | decide | omega) dX11_feed_95 rfl ?_
                refine V_rw (pk_rem (by omega) (by decide) (by decide)) ?_
                refine V_imul 97 dX11_feed_96 rfl ?_
                refine V_rw (pk_mul 8 (i % 4)) ?_
                refine V_isub 98 dX11_feed_97 rfl ?_
                refine V_rw (pk_sub (a := 24) (by omega)) ?_
                refine V_ishr 99 dX11_feed_98 rfl ?_
                refine V_sipush 102 (255) rfl dX11_feed_99 rfl ?_
                refine V_iand 103 dX11_feed_102 rfl ?_
                refine V_rw (by_m v4 (k := i % 4) (by omega) rfl) ?_
                refine V_iastN 104 71 600 (s.tn + i) (by first | decide | omega) (by decide) rfl (by decide) dX11_feed_103 rfl ?_
                refine V_aload_n 105 2 rfl _ rfl rfl dX11_feed_104 rfl ?_
                refine V_dup 106 rfl dX11_feed_105 rfl ?_
                refine V_getI 109 69 11 2 (nI (s.tn + i)) (by rw [up2_n _ _ _ (by decide)]; exact h3) flX11_120 rfl rfl rfl (by decide) dX11_feed_106 rfl ?_
                refine V_iconst 110 (1) rfl dX11_feed_109 rfl ?_
                refine V_iadd 111 dX11_feed_110 rfl ?_
                refine V_rw (nI_add (s.tn + i) 1) ?_
                refine V_putI 114 69 11 2 flX11_120 rfl rfl rfl (by decide) rfl dX11_feed_111 rfl ?_
                refine V_iinc 117 1 rfl (nI (i + 1)) [(6, .int (nI (i + 1))), (7, .int v4), (0, rf G 69), (1, .int v1), (2, .int v2), (3, .int v3), (4, .int v4), (5, .int v5)] (nI_1 _) (by decide) rfl dX11_feed_114 rfl ?_
                refine V_goto 23 rfl dX11_feed_117 ?_
                exact V_lv [0, 2, 3, 4, 5, 6, 7] rfl (ih _ (go A v4 i hi hA (F4 i ((nI_leI (a := 12) (by decide) (by omega)).mp c55) (Nat.lt_of_not_le (fun q => c66 (nI_le q (by omega)))))))
            · refine V_iload_n 59 4 rfl rfl dX11_feed_58 rfl ?_
              refine V_goto 76 rfl dX11_feed_59 ?_
              refine V_istore 78 [(7, .int v3), (6, .int (nI i)), (0, rf G 69), (1, .int v1), (2, .int v2), (3, .int v3), (4, .int v4), (5, .int v5)] (by decide) rfl dX11_feed_76 rfl ?_
              refine V_aload_n 79 2 rfl _ rfl rfl dX11_feed_78 rfl ?_
              refine V_getR 82 69 11 9 71 (hRM 9) flX11_20 rfl rfl rfl (by decide) dX11_feed_79 rfl ?_
              refine V_aload_n 83 2 rfl _ rfl rfl dX11_feed_82 rfl ?_
              refine V_getI 86 69 11 2 (nI (s.tn + i)) h3 flX11_120 rfl rfl rfl (by decide) dX11_feed_83 rfl ?_
              refine V_iload 88 0 rfl dX11_feed_86 rfl ?_
              refine V_bipush 90 (24) rfl dX11_feed_88 rfl ?_
              refine V_bipush 92 (8) rfl dX11_feed_90 rfl ?_
              refine V_iload 94 1 rfl dX11_feed_92 rfl ?_
              refine V_iconst 95 (4) rfl dX11_feed_94 rfl ?_
              refine V_irem 96 (by first | decide | omega) dX11_feed_95 rfl ?_
              refine V_rw (pk_rem (by omega) (by decide) (by decide)) ?_
              refine V_imul 97 dX11_feed_96 rfl ?_
              refine V_rw (pk_mul 8 (i % 4)) ?_
              refine V_isub 98 dX11_feed_97 rfl ?_
              refine V_rw (pk_sub (a := 24) (by omega)) ?_
              refine V_ishr 99 dX11_feed_98 rfl ?_
              refine V_sipush 102 (255) rfl dX11_feed_99 rfl ?_
              refine V_iand 103 dX11_feed_102 rfl ?_
              refine V_rw (by_m v3 (k := i % 4) (by omega) rfl) ?_
              refine V_iastN 104 71 600 (s.tn + i) (by first | decide | omega) (by decide) rfl (by decide) dX11_feed_103 rfl ?_
              refine V_aload_n 105 2 rfl _ rfl rfl dX11_feed_104 rfl ?_
              refine V_dup 106 rfl dX11_feed_105 rfl ?_
              refine V_getI 109 69 11 2 (nI (s.tn + i)) (by rw [up2_n _ _ _ (by decide)]; exact h3) flX11_120 rfl rfl rfl (by decide) dX11_feed_106 rfl ?_
              refine V_iconst 110 (1) rfl dX11_feed_109 rfl ?_
              refine V_iadd 111 dX11_feed_110 rfl ?_
              refine V_rw (nI_add (s.tn + i) 1) ?_
              refine V_putI 114 69 11 2 flX11_120 rfl rfl rfl (by decide) rfl dX11_feed_111 rfl ?_
              refine V_iinc 117 1 rfl (nI (i + 1)) [(6, .int (nI (i + 1))), (7, .int v3), (0, rf G 69), (1, .int v1), (2, .int v2), (3, .int v3), (4, .int v4), (5, .int v5)] (nI_1 _) (by decide) rfl dX11_feed_114 rfl ?_
              refine V_goto 23 rfl dX11_feed_117 ?_
              exact V_lv [0, 2, 3, 4, 5, 6, 7] rfl (ih _ (go A v3 i hi hA (F3 i ((nI_leI (a := 8) (by decide) (by omega)).mp c44) (Nat.lt_of_not_le (fun q => c55 (nI_le q (by omega)))))))
          · refine V_iload_n 48 3 rfl rfl dX11_feed_47 rfl ?_
            refine V_goto 76 rfl dX11_feed_48 ?_
            refine V_istore 78 [(7, .int v2), (6, .int (nI i)), (0, rf G 69), (1, .int v1), (2, .int v2), (3, .int v3), (4, .int v4), (5, .int v5)] (by decide) rfl dX11_feed_76 rfl ?_
            refine V_aload_n 79 2 rfl _ rfl rfl dX11_feed_78 rfl ?_
            refine V_getR 82 69 11 9 71 (hRM 9) flX11_20 rfl rfl rfl (by decide) dX11_feed_79 rfl ?_
            refine V_aload_n 83 2 rfl _ rfl rfl dX11_feed_82 rfl ?_
            refine V_getI 86 69 11 2 (nI (s.tn + i)) h3 flX11_120 rfl rfl rfl (by decide) dX11_feed_83 rfl ?_
            refine V_iload 88 0 rfl dX11_feed_86 rfl ?_
            refine V_bipush 90 (24) rfl dX11_feed_88 rfl ?_
            refine V_bipush 92 (8) rfl dX11_feed_90 rfl ?_
            refine V_iload 94 1 rfl dX11_feed_92 rfl ?_
            refine V_iconst 95 (4) rfl dX11_feed_94 rfl ?_
            refine V_irem 96 (by first | decide | omega) dX11_feed_95 rfl ?_
            refine V_rw (pk_rem (by omega) (by decide) (by decide)) ?_
            refine V_imul 97 dX11_feed_96 rfl ?_
            refine V_rw (pk_mul 8 (i % 4)) ?_
            refine V_isub 98 dX11_feed_97 rfl ?_
            refine V_rw (pk_sub (a := 24) (by omega)) ?_
            refine V_ishr 99 dX11_feed_98 rfl ?_
            refine V_sipush 102 (255) rfl dX11_feed_99 rfl ?_
            refine V_iand 103 dX11_feed_102 rfl ?_
            refine V_rw (by_m v2 (k := i % 4) (by omega) rfl) ?_
            refine V_iastN 104 71 600 (s.tn + i) (by first | decide | omega) (by decide) rfl (by decide) dX11_feed_103 rfl ?_
            refine V_aload_n 105 2 rfl _ rfl rfl dX11_feed_104 rfl ?_
            refine V_dup 106 rfl dX11_feed_105 rfl ?_
            refine V_getI 109 69 11 2 (nI (s.tn + i)) (by rw [up2_n _ _ _ (by decide)]; exact h3) flX11_120 rfl rfl rfl (by decide) dX11_feed_106 rfl ?_
            refine V_iconst 110 (1) rfl dX11_feed_109 rfl ?_
            refine V_iadd 111 dX11_feed_110 rfl ?_
            refine V_rw (nI_add (s.tn + i) 1) ?_
            refine V_putI 114 69 11 2 flX11_120 rfl rfl rfl (by decide) rfl dX11_feed_111 rfl ?_
            refine V_iinc 117 1 rfl (nI (i + 1)) [(6, .int (nI (i + 1))), (7, .int v2), (0, rf G 69), (1, .int v1), (2, .int v2), (3, .int v3), (4, .int v4), (5, .int v5)] (nI_1 _) (by decide) rfl dX11_feed_114 rfl ?_
            refine V_goto 23 rfl dX11_feed_117 ?_
            exact V_lv [0, 2, 3, 4, 5, 6, 7] rfl (ih _ (go A v2 i hi hA (F2 i ((nI_leI (a := 4) (by decide) (by omega)).mp c33) (Nat.lt_of_not_le (fun q => c44 (nI_le q (by omega)))))))
        · refine V_iload_n 37 2 rfl rfl dX11_feed_36 rfl ?_
          refine V_goto 76 rfl dX11_feed_37 ?_
          refine V_istore 78 [(7, .int v1), (6, .int (nI i)), (0, rf G 69), (1, .int v1), (2, .int v2), (3, .int v3), (4, .int v4), (5, .int v5)] (by decide) rfl dX11_feed_76 rfl ?_
          refine V_aload_n 79 2 rfl _ rfl rfl dX11_feed_78 rfl ?_
          refine V_getR 82 69 11 9 71 (hRM 9) flX11_20 rfl rfl rfl (by decide) dX11_feed_79 rfl ?_
          refine V_aload_n 83 2 rfl _ rfl rfl dX11_feed_82 rfl ?_
          refine V_getI 86 69 11 2 (nI (s.tn + i)) h3 flX11_120 rfl rfl rfl (by decide) dX11_feed_83 rfl ?_
          refine V_iload 88 0 rfl dX11_feed_86 rfl ?_
          refine V_bipush 90 (24) rfl dX11_feed_88 rfl ?_
          refine V_bipush 92 (8) rfl dX11_feed_90 rfl ?_
          refine V_iload 94 1 rfl dX11_feed_92 rfl ?_
          refine V_iconst 95 (4) rfl dX11_feed_94 rfl ?_
          refine V_irem 96 (by first | decide | omega) dX11_feed_95 rfl ?_
          refine V_rw (pk_rem (by omega) (by decide) (by decide)) ?_
          refine V_imul 97 dX11_feed_96 rfl ?_
          refine V_rw (pk_mul 8 (i % 4)) ?_
          refine V_isub 98 dX11_feed_97 rfl ?_
          refine V_rw (pk_sub (a := 24) (by omega)) ?_
          refine V_ishr 99 dX11_feed_98 rfl ?_
          refine V_sipush 102 (255) rfl dX11_feed_99 rfl ?_
          refine V_iand 103 dX11_feed_102 rfl ?_
          refine V_rw (by_m v1 (k := i % 4) (by omega) rfl) ?_
          refine V_iastN 104 71 600 (s.tn + i) (by first | decide | omega) (by decide) rfl (by decide) dX11_feed_103 rfl ?_
          refine V_aload_n 105 2 rfl _ rfl rfl dX11_feed_104 rfl ?_
          refine V_dup 106 rfl dX11_feed_105 rfl ?_
          refine V_getI 109 69 11 2 (nI (s.tn + i)) (by rw [up2_n _ _ _ (by decide)]; exact h3) flX11_120 rfl rfl rfl (by decide) dX11_feed_106 rfl ?_
          refine V_iconst 110 (1) rfl dX11_feed_109 rfl ?_
          refine V_iadd 111 dX11_feed_110 rfl ?_
          refine V_rw (nI_add (s.tn + i) 1) ?_
          refine V_putI 114 69 11 2 flX11_120 rfl rfl rfl (by decide) rfl dX11_feed_111 rfl ?_
          refine V_iinc 117 1 rfl (nI (i + 1)) [(6, .int (nI (i + 1))), (7, .int v1), (0, rf G 69), (1, .int v1), (2, .int v2), (3, .int v3), (4, .int v4), (5, .int v5)] (nI_1 _) (by decide) rfl dX11_feed_114 rfl ?_
          refine V_goto 23 rfl dX11_feed_117 ?_
          exact V_lv [0, 2, 3, 4, 5, 6, 7] rfl (ih _ (go A v1 i hi hA (F1 i (Nat.lt_of_not_le (fun q => c33 (nI_le q (by omega)))))))
    refine V_aload_n 1 0 rfl _ rfl rfl dX11_feed_0 rfl ?_
    refine V_iconst 2 (0) rfl dX11_feed_1 rfl ?_
    refine V_putI 5 69 11 0 flX11_3 rfl rfl rfl (by decide) rfl dX11_feed_2 rfl ?_
    rw [← hI0]
    refine V_aload_n 6 0 rfl _ rfl rfl dX11_feed_5 rfl ?_
    refine V_getI 9 69 11 2 (nI s.tn) t1 flX11_120 rfl rfl rfl (by decide) dX11_feed_6 rfl ?_
    refine V_bipush 11 (20) rfl dX11_feed_9 rfl ?_
    refine V_iadd 12 dX11_feed_11 rfl ?_
    refine V_rw (nI_add s.tn 20) ?_
    refine V_sipush 15 (600) rfl dX11_feed_12 rfl ?_
    refine V_icmp_le 20 18 rfl dX11_feed_15 rfl (fun c15 => ?_) (fun c15 => absurd (nI_le (b := 600) (by omega) (by decide)) c15)
    refine V_iconst 21 (0) rfl dX11_feed_20 rfl ?_
    refine V_istore 23 [(6, .int 0), (0, rf G 69), (1, .int v1), (2, .int v2), (3, .int v3), (4, .int v4), (5, .int v5)] (by decide) rfl dX11_feed_21 rfl ?_
    exact V_lv [0, 1, 2, 3, 4, 5, 6] rfl (L 0 (Nat.zero_le _) I0 ⟨fun _ _ _ => rfl, fun _ _ => rfl, t1, fun j hj => by rw [if_neg (by omega)]; exact t2 j hj⟩)
theorem c_X11_undo {G : Gx} {d : Nat} {I : FI} {R : FR} {J : FJ} {Q : Po} {s : SG} (hX : SM I R s) (hS : SI s) {cd : Nat} (hq : HR I R J Q cd (undoT s)) : Cc G mX11_undo (d + 900) 0 0 [rf G 69] 103 I R J Q := by
  obtain ⟨I0, hI0⟩ : ∃ I0, I0 = up2 I 69 0 0 := ⟨_, rfl⟩
  have hz := FrM.z hI0
  have hX0 := hX.q hz
  obtain ⟨⟨hRM, m2, m3, m4, m5, m6, m7⟩, ⟨t1, t2, t3⟩, ⟨b1, b2⟩, ⟨p1, p2, p3, p4⟩, r1, r2, r3⟩ := id hX0
  obtain ⟨s1, s2, s3, s4, s5, s6, s7, s8, s9, s10⟩ := hS
  have ht : I0 69 0 = 0 := hz.2.1
  have i0 : ∀ a, a ≠ 69 → I0 a = I a := fun a h => by rw [hI0]; exact up2_n _ _ _ h
  unfold undoT at hq
  show V _ _ _ _ _ _ _ _ [(0, rf G 69)] [] _ _ _ _ _
  by_cases c0 : s.wn = 0
  · rw [if_pos c0] at hq
    refine V_aload_n 1 0 rfl _ rfl rfl dX11_undo_0 rfl ?_
    refine V_iconst 2 (0) rfl dX11_undo_1 rfl ?_
    refine V_putI 5 69 11 0 flX11_3 rfl rfl rfl (by decide) rfl dX11_undo_2 rfl ?_
    rw [← hI0]
    refine V_aload_n 6 0 rfl _ rfl rfl dX11_undo_5 rfl ?_
    refine V_getI 9 69 11 35 (nI s.wn) p1 flX11_194 rfl rfl rfl (by decide) dX11_undo_6 rfl ?_
    refine V_if_ne 14 12 rfl dX11_undo_9 rfl (fun c9 => absurd (show nI s.wn = 0 by rw [c0]; rfl) c9) (fun c9 => ?_)
    refine V_iconst 13 (-1) rfl dX11_undo_12 rfl ?_
    refine V_ret_i rfl rfl (Nat.le_of_ble_eq_true rfl) (fun h => absurd h (by decide)) (Nat.le_of_ble_eq_true rfl) (hq I0 hX0 (fun a ha => i0 a (by omega)) ht (i0 102 (by decide))) dX11_undo_13
  · rw [if_neg c0] at hq
    obtain ⟨A, eA⟩ : ∃ A, A = up2 I0 69 35 (nI (s.wn - 1)) := ⟨_, rfl⟩
    have a1 : ∀ a, a ≠ 69 → A a = I0 a := fun a h => by rw [eA]; exact up2_n _ _ _ h
    have a2 : ∀ j, j ≠ 35 → A 69 j = I0 69 j := fun j h => by rw [eA, up2_s, upd_n h]
    have a35 : A 69 35 = nI (s.wn - 1) := by rw [eA, up2_s]; exact upd_s
    have p3' : ∀ k, k < 51 → A 90 (51 * (s.wn - 1) + k) = s.W (s.wn - 1) k := fun k hk => by rw [a1 90 (by decide)]; exact p3 _ (by omega) k hk
    have L : ∀ i, i ≤ 51 → ∀ F : DV, (∀ k, k < i → F k = s.W (s.wn - 1) k) → V G mX11_undo (d + 900) 0 0 0 0 26 [(1, .int (nI i)), (0, rf G 69)] [] 103 (upA A 88 F) R J Q := by
      refine loopd 51 (fun F hF => ?_) (fun i hi ih F hF => ?_)
      · have u : ∀ a, a ≠ 69 → a ≠ 88 → up2 (upA A 88 F) 69 36 0 a = I0 a := fun a h1 h2 => by rw [up2_n _ _ _ h1, upA_n h2]; exact a1 a h1
        have v : ∀ j, j ≠ 36 → j ≠ 35 → up2 (upA A 88 F) 69 36 0 69 j = I0 69 j := fun j h1 h2 => by rw [up2_s, upd_n h1, upA_n (by decide)]; exact a2 j h2
        have v35 : up2 (upA A 88 F) 69 36 0 69 35 = nI (s.wn - 1) := by rw [up2_s, upd_n (by decide), upA_n (by decide)]; exact a35
        have hf : SM (up2 (upA A 88 F) 69 36 0) R (mkS s.K s.f (s.W (s.wn - 1)) s.t s.tn s.nb s.bk (s.wn - 1) s.W s.mn s.M s.mw s.MW 0 s.fl s.mi s.wr) := by
          refine ⟨⟨hRM, m2.fr (v 21 (by decide) (by decide)) (v 22 (by decide) (by decide)) (v 23 (by decide) (by decide)) (fun a q1 q2 => u a (by omega) (by omega)), m3, fun k hk => ?_, (s8 _ (by omega)).1, m6.fr (v 30 (by decide) (by decide)) (u 82 (by decide) (by decide)) (u 83 (by decide) (by decide)), m7⟩, ⟨?_, ?_, ?_⟩, ⟨?_, ?_⟩, ⟨v35, ?_, fun j hj => ?_, ?_⟩, ?_, ?_, ?_⟩
          · rw [up2_n _ _ _ (by decide), upA_s]; exact hF k hk
          · rw [v 2 (by decide) (by decide)]; exact t1
          · rw [u 71 (by decide) (by decide)]; exact t2
          · rw [v 8 (by decide) (by decide)]; exact t3
          · rw [v 46 (by decide) (by decide)]; exact b1
          · rw [u 93 (by decide) (by decide)]; exact b2
          · rw [v 56 (by decide) (by decide)]; exact p2
          · have hj1 : j < s.wn - 1 := hj
            rw [u 90 (by decide) (by decide)]; exact p3 j (by omega)
          · rw [u 101 (by decide) (by decide)]; exact p4
          · rw [up2_s]; exact upd_s
          · rw [u 70 (by decide) (by decide)]; exact r2
          · rw [u 70 (by decide) (by decide)]; exact r3
        refine V_iload_n 27 0 rfl rfl dX11_undo_26 rfl ?_
        refine V_bipush 29 (51) rfl dX11_undo_27 rfl ?_
        refine V_icmp_ge 58 32 rfl dX11_undo_29 rfl (fun c29 => ?_) (fun c29 => absurd (Int32.le_refl _) c29)
        refine V_aload_n 59 1 rfl _ rfl rfl dX11_undo_58 rfl ?_
        refine V_iconst 60 (0) rfl dX11_undo_59 rfl ?_
        refine V_putI 63 69 11 36 flX11_200 rfl rfl rfl (by decide) rfl dX11_undo_60 rfl ?_
        refine V_aload_n 64 1 rfl _ rfl rfl dX11_undo_63 rfl ?_
        refine V_getI 67 69 11 35 (nI (s.wn - 1)) v35 flX11_194 rfl rfl rfl (by decide) dX11_undo_64 rfl ?_
        refine V_ret_i rfl rfl (Nat.le_of_ble_eq_true rfl) (fun h => absurd h (by decide)) (Nat.le_of_ble_eq_true rfl) (hq _ hf (fun a ha => by rw [u a (by omega) (by omega)]; exact i0 a (by omega)) (by rw [v 0 (by decide) (by decide)]; exact ht) (by rw [u 102 (by decide) (by decide)]; exact i0 102 (by decide))) dX11_undo_67
      · refine V_iload_n 27 0 rfl rfl dX11_undo_26 rfl ?_
        refine V_bipush 29 (51) rfl dX11_undo_27 rfl ?_
        refine V_icmp_ge 58 32 rfl dX11_undo_29 rfl (fun c29 => absurd c29 (nI_ge hi (by decide))) (fun c29 => ?_)
        refine V_aload_n 33 1 rfl _ rfl rfl dX11_undo_32 rfl ?_
        refine V_getR 36 69 11 40 88 (hRM 40) flX11_71 rfl rfl rfl (by decide) dX11_undo_33 rfl ?_
        refine V_iload_n 37 0 rfl rfl dX11_undo_36 rfl ?_
        refine V_aload_n 38 1 rfl _ rfl rfl dX11_undo_37 rfl ?_
        refine V_getR 41 69 11 42 90 (hRM 42) flX11_77 rfl rfl rfl (by decide) dX11_undo_38 rfl ?_
        refine V_bipush 43 (51) rfl dX11_undo_41 rfl ?_
        refine V_aload_n 44 1 rfl _ rfl rfl dX11_undo_43 rfl ?_
        refine V_getI 47 69 11 35 (nI (s.wn - 1)) (by rw [upA_n (by decide)]; exact a35) flX11_194 rfl rfl rfl (by decide) dX11_undo_44 rfl ?_
        refine V_imul 48 dX11_undo_47 rfl ?_
        refine V_rw (pk_mul 51 (s.wn - 1)) ?_
        refine V_iload_n 49 0 rfl rfl dX11_undo_48 rfl ?_
        refine V_iadd 50 dX11_undo_49 rfl ?_
        refine V_rw (nI_add (51 * (s.wn - 1)) i) ?_
        refine V_ialdN 51 90 816 ((51 * (s.wn - 1)) + i) (s.W (s.wn - 1) i) (by rw [upA_n (by decide)]; exact p3' i hi) (by omega) (by decide) rfl (by decide) dX11_undo_50 rfl ?_
        refine V_iastN 52 88 51 i (by omega) (by decide) rfl (by decide) dX11_undo_51 rfl ?_
        rw [upA_u]
        refine V_iinc 55 0 rfl (nI (i + 1)) [(1, .int (nI (i + 1))), (0, rf G 69)] (nI_1 _) (by decide) rfl dX11_undo_52 rfl ?_
        refine V_goto 26 rfl dX11_undo_55 ?_
        exact V_lv [0, 1] rfl (ih _ (fun k hk => by
          by_cases q : k = i
          · subst q; exact upd_s
          · rw [upd_n q]; exact hF k (by omega)))
    refine V_aload_n 1 0 rfl _ rfl rfl dX11_undo_0 rfl ?_
    refine V_iconst 2 (0) rfl dX11_undo_1 rfl ?_
    refine V_putI 5 69 11 0 flX11_3 rfl rfl rfl (by decide) rfl dX11_undo_2 rfl ?_
    rw [← hI0]
    refine V_aload_n 6 0 rfl _ rfl rfl dX11_undo_5 rfl ?_
    refine V_getI 9 69 11 35 (nI s.wn) p1 flX11_194 rfl rfl rfl (by decide) dX11_undo_6 rfl ?_
    refine V_if_ne 14 12 rfl dX11_undo_9 rfl (fun c9 => ?_) (fun c9 => absurd c9 (nI_ne0 (by omega) (by omega)))
    refine V_aload_n 15 0 rfl _ rfl rfl dX11_undo_14 rfl ?_
    refine V_dup 16 rfl dX11_undo_15 rfl ?_
    refine V_getI 19 69 11 35 (nI s.wn) p1 flX11_194 rfl rfl rfl (by decide) dX11_undo_16 rfl ?_
    refine V_iconst 20 (1) rfl dX11_undo_19 rfl ?_
    refine V_isub 21 dX11_undo_20 rfl ?_
    refine V_rw (nI_sub (a := s.wn) (b := 1) (by omega)) ?_
    refine V_putI 24 69 11 35 flX11_194 rfl rfl rfl (by decide) rfl dX11_undo_21 rfl ?_
    rw [← eA]
    refine V_iconst 25 (0) rfl dX11_undo_24 rfl ?_
    refine V_istore_n 26 [(1, .int 0), (0, rf G 69)] (by decide) rfl rfl dX11_undo_25 rfl ?_
    refine V_rwI (show A = upA A 88 (A 88) from by funext a; by_cases q : a = 88 <;> simp [upA, q]) ?_
    exact V_lv [0, 1] rfl (L 0 (Nat.zero_le _) _ (fun k hk => absurd hk (Nat.not_lt_zero _)))
theorem upA_self {I : FI} {b : Nat} : I = upA I b (I b) := by funext a; by_cases q : a = b <;> simp [upA, q]
theorem c_X11_keepsRow1_88 {G : Gx} {d : Nat} {I : FI} {R : FR} {J : FJ} {Q : Po} (hRM : ∀ k, R 69 k = refM k) {q : Nat} (hq0 : q + 51 ≤ 2604) (hq : ∀ g : DV, (∀ k, k < 51 → g (q + k) = I 88 k) → (∀ j, (j < q ∨ q + 51 ≤ j) → g j = I 101 j) → Q (.inl (some (.int (nI (q + 51))))) 103 (upA I 101 g) R J) : Cc G mX11_keepsRow d 0 0 [rf G 69, .int (nI q), rf G 88, .int 51, .int 1] 103 I R J Q := by
  have L : ∀ i, i ≤ 51 → ∀ g : DV, (∀ k, k < i → g (q + k) = I 88 k) → (∀ j, (j < q ∨ q + 51 ≤ j) → g j = I 101 j) → V G mX11_keepsRow d 0 0 0 0 3 [(5, .int (nI i)), (0, rf G 69), (1, .int (nI q)), (2, rf G 88), (3, .int 51), (4, .int 1)] [] 103 (upA I 101 g) R J Q := by
    refine loopd 51 (fun g h1 h2 => ?_) (fun i hi ih g h1 h2 => ?_)
    · refine V_iload 5 0 rfl dX11_keepsRow_3 rfl ?_
      refine V_iload_n 6 4 rfl rfl dX11_keepsRow_5 rfl ?_
      refine V_icmp_ge 49 9 rfl dX11_keepsRow_6 rfl (fun c6 => ?_) (fun c6 => absurd (Int32.le_refl _) c6)
      refine V_iload_n 50 2 rfl rfl dX11_keepsRow_49 rfl ?_
      refine V_iload_n 51 4 rfl rfl dX11_keepsRow_50 rfl ?_
      refine V_iadd 52 dX11_keepsRow_51 rfl ?_
      refine V_rw (nI_add q 51) ?_
      refine V_ret_i rfl rfl (Nat.le_of_ble_eq_true rfl) (fun h => absurd h (by decide)) (Nat.le_of_ble_eq_true rfl) (hq g h1 h2) dX11_keepsRow_52
    · refine V_iload 5 0 rfl dX11_keepsRow_3 rfl ?_
      refine V_iload_n 6 4 rfl rfl dX11_keepsRow_5 rfl ?_
      refine V_icmp_ge 49 9 rfl dX11_keepsRow_6 rfl (fun c6 => absurd c6 (nI_ge hi (by decide))) (fun c6 => ?_)
      refine V_iload 11 5 rfl dX11_keepsRow_9 rfl ?_
      refine V_if_eq 30 14 rfl dX11_keepsRow_11 rfl (fun c11 => absurd c11 (by decide)) (fun c11 => ?_)
      refine V_aload_n 15 1 rfl _ rfl rfl dX11_keepsRow_14 rfl ?_
      refine V_getR 18 69 11 55 101 (hRM 55) flX11_111 rfl rfl rfl (by decide) dX11_keepsRow_15 rfl ?_
      refine V_iload_n 19 2 rfl rfl dX11_keepsRow_18 rfl ?_
      refine V_iload 21 0 rfl dX11_keepsRow_19 rfl ?_
      refine V_iadd 22 dX11_keepsRow_21 rfl ?_
      refine V_rw (nI_add q i) ?_
      refine V_aload_n 23 3 rfl _ rfl rfl dX11_keepsRow_22 rfl ?_
      refine V_iload 25 0 rfl dX11_keepsRow_23 rfl ?_
      refine V_ialdN 26 88 51 i (I 88 i) (by rw [upA_n (by decide)]) (by omega) (by decide) rfl (by decide) dX11_keepsRow_25 rfl ?_
      refine V_iastN 27 101 2604 (q + i) (by omega) (by decide) rfl (by decide) dX11_keepsRow_26 rfl ?_
      rw [upA_u]
      refine V_goto 43 rfl dX11_keepsRow_27 ?_
      refine V_iinc 46 0 rfl (nI (i + 1)) [(5, .int (nI (i + 1))), (0, rf G 69), (1, .int (nI q)), (2, rf G 88), (3, .int 51), (4, .int 1)] (nI_1 _) (by decide) rfl dX11_keepsRow_43 rfl ?_
      refine V_goto 3 rfl dX11_keepsRow_46 ?_
      exact V_lv [0, 1, 2, 3, 4, 5] rfl (ih _ (fun k hk => by
        by_cases e : k = i
        · subst e; exact upd_s
        · rw [upd_n (by omega)]; exact h1 k (by omega)) (fun j hj => by rw [upd_n (by omega)]; exact h2 j hj))
  show V _ _ _ _ _ _ _ _ [(0, rf G 69), (1, .int (nI q)), (2, rf G 88), (3, .int 51), (4, .int 1)] [] _ _ _ _ _
  refine V_iconst 1 (0) rfl dX11_keepsRow_0 rfl ?_
  refine V_istore 3 [(5, .int 0), (0, rf G 69), (1, .int (nI q)), (2, rf G 88), (3, .int 51), (4, .int 1)] (by decide) rfl dX11_keepsRow_1 rfl ?_
  refine V_rwI (upA_self (b := 101)) ?_
  exact V_lv [0, 1, 2, 3, 4, 5] rfl (L 0 (Nat.zero_le _) _ (fun k hk => absurd hk (Nat.not_lt_zero _)) (fun j hj => rfl))
theorem c_X11_keepsRow0_88 {G : Gx} {d : Nat} {I : FI} {R : FR} {J : FJ} {Q : Po} (hRM : ∀ k, R 69 k = refM k) {q : Nat} (hq0 : q + 51 ≤ 2604) (hq : ∀ g : DV, (∀ k, k < 51 → g k = I 101 (q + k)) → Q (.inl (some (.int (nI (q + 51))))) 103 (upA I 88 g) R J) : Cc G mX11_keepsRow d 0 0 [rf G 69, .int (nI q), rf G 88, .int 51, .int 0] 103 I R J Q := by
  have L : ∀ i, i ≤ 51 → ∀ g : DV, (∀ k, k < i → g k = I 101 (q + k)) → V G mX11_keepsRow d 0 0 0 0 3 [(5, .int (nI i)), (0, rf G 69), (1, .int (nI q)), (2, rf G 88), (3, .int 51), (4, .int 0)] [] 103 (upA I 88 g) R J Q := by
    refine loopd 51 (fun g h1 => ?_) (fun i hi ih g h1 => ?_)
    · refine V_iload 5 0 rfl dX11_keepsRow_3 rfl ?_
      refine V_iload_n 6 4 rfl rfl dX11_keepsRow_5 rfl ?_
      refine V_icmp_ge 49 9 rfl dX11_keepsRow_6 rfl (fun c6 => ?_) (fun c6 => absurd (Int32.le_refl _) c6)
      refine V_iload_n 50 2 rfl rfl dX11_keepsRow_49 rfl ?_
      refine V_iload_n 51 4 rfl rfl dX11_keepsRow_50 rfl ?_
      refine V_iadd 52 dX11_keepsRow_51 rfl ?_
      refine V_rw (nI_add q 51) ?_
      refine V_ret_i rfl rfl (Nat.le_of_ble_eq_true rfl) (fun h => absurd h (by decide)) (Nat.le_of_ble_eq_true rfl) (hq g h1) dX11_keepsRow_52
    · refine V_iload 5 0 rfl dX11_keepsRow_3 rfl ?_
      refine V_iload_n 6 4 rfl rfl dX11_keepsRow_5 rfl ?_
      refine V_icmp_ge 49 9 rfl dX11_keepsRow_6 rfl (fun c6 => absurd c6 (nI_ge hi (by decide))) (fun c6 => ?_)
      refine V_iload 11 5 rfl dX11_keepsRow_9 rfl ?_
      refine V_if_eq 30 14 rfl dX11_keepsRow_11 rfl (fun c11 => ?_) (fun c11 => absurd c11 (by decide))
      refine V_aload_n 31 3 rfl _ rfl rfl dX11_keepsRow_30 rfl ?_
      refine V_iload 33 0 rfl dX11_keepsRow_31 rfl ?_
      refine V_aload_n 34 1 rfl _ rfl rfl dX11_keepsRow_33 rfl ?_
      refine V_getR 37 69 11 55 101 (hRM 55) flX11_111 rfl rfl rfl (by decide) dX11_keepsRow_34 rfl ?_
      refine V_iload_n 38 2 rfl rfl dX11_keepsRow_37 rfl ?_
      refine V_iload 40 0 rfl dX11_keepsRow_38 rfl ?_
      refine V_iadd 41 dX11_keepsRow_40 rfl ?_
      refine V_rw (nI_add q i) ?_
      refine V_ialdN 42 101 2604 (q + i) (I 101 (q + i)) (by rw [upA_n (by decide)]) (by omega) (by decide) rfl (by decide) dX11_keepsRow_41 rfl ?_
      refine V_iastN 43 88 51 i (by omega) (by decide) rfl (by decide) dX11_keepsRow_42 rfl ?_
      rw [upA_u]
      refine V_iinc 46 0 rfl (nI (i + 1)) [(5, .int (nI (i + 1))), (0, rf G 69), (1, .int (nI q)), (2, rf G 88), (3, .int 51), (4, .int 0)] (nI_1 _) (by decide) rfl dX11_keepsRow_43 rfl ?_
      refine V_goto 3 rfl dX11_keepsRow_46 ?_
      exact V_lv [0, 1, 2, 3, 4, 5] rfl (ih _ (fun k hk => by
        by_cases e : k = i
        · subst e; exact upd_s
        · rw [upd_n (by omega)]; exact h1 k (by omega)))
  show V _ _ _ _ _ _ _ _ [(0, rf G 69), (1, .int (nI q)), (2, rf G 88), (3, .int 51), (4, .int 0)] [] _ _ _ _ _
  refine V_iconst 1 (0) rfl dX11_keepsRow_0 rfl ?_
  refine V_istore 3 [(5, .int 0), (0, rf G 69), (1, .int (nI q)), (2, rf G 88), (3, .int 51), (4, .int 0)] (by decide) rfl dX11_keepsRow_1 rfl ?_
  refine V_rwI (upA_self (b := 88)) ?_
  exact V_lv [0, 1, 2, 3, 4, 5] rfl (L 0 (Nat.zero_le _) _ (fun k hk => absurd hk (Nat.not_lt_zero _)))
theorem c_X11_keepsRow1_90 {G : Gx} {d : Nat} {I : FI} {R : FR} {J : FJ} {Q : Po} (hRM : ∀ k, R 69 k = refM k) {q : Nat} (hq0 : q + 816 ≤ 2604) (hq : ∀ g : DV, (∀ k, k < 816 → g (q + k) = I 90 k) → (∀ j, (j < q ∨ q + 816 ≤ j) → g j = I 101 j) → Q (.inl (some (.int (nI (q + 816))))) 103 (upA I 101 g) R J) : Cc G mX11_keepsRow d 0 0 [rf G 69, .int (nI q), rf G 90, .int 816, .int 1] 103 I R J Q := by
  have L : ∀ i, i ≤ 816 → ∀ g : DV, (∀ k, k < i → g (q + k) = I 90 k) → (∀ j, (j < q ∨ q + 816 ≤ j) → g j = I 101 j) → V G mX11_keepsRow d 0 0 0 0 3 [(5, .int (nI i)), (0, rf G 69), (1, .int (nI q)), (2, rf G 90), (3, .int 816), (4, .int 1)] [] 103 (upA I 101 g) R J Q := by
    refine loopd 816 (fun g h1 h2 => ?_) (fun i hi ih g h1 h2 => ?_)
    · refine V_iload 5 0 rfl dX11_keepsRow_3 rfl ?_
      refine V_iload_n 6 4 rfl rfl dX11_keepsRow_5 rfl ?_
      refine V_icmp_ge 49 9 rfl dX11_keepsRow_6 rfl (fun c6 => ?_) (fun c6 => absurd (Int32.le_refl _) c6)
      refine V_iload_n 50 2 rfl rfl dX11_keepsRow_49 rfl ?_
      refine V_iload_n 51 4 rfl rfl dX11_keepsRow_50 rfl ?_
      refine V_iadd 52 dX11_keepsRow_51 rfl ?_
      refine V_rw (nI_add q 816) ?_
      refine V_ret_i rfl rfl (Nat.le_of_ble_eq_true rfl) (fun h => absurd h (by decide)) (Nat.le_of_ble_eq_true rfl) (hq g h1 h2) dX11_keepsRow_52
    · refine V_iload 5 0 rfl dX11_keepsRow_3 rfl ?_
      refine V_iload_n 6 4 rfl rfl dX11_keepsRow_5 rfl ?_
      refine V_icmp_ge 49 9 rfl dX11_keepsRow_6 rfl (fun c6 => absurd c6 (nI_ge hi (by decide))) (fun c6 => ?_)
      refine V_iload 11 5 rfl dX11_keepsRow_9 rfl ?_
      refine V_if_eq 30 14 rfl dX11_keepsRow_11 rfl (fun c11 => absurd c11 (by decide)) (fun c11 => ?_)
      refine V_aload_n 15 1 rfl _ rfl rfl dX11_keepsRow_14 rfl ?_
      refine V_getR 18 69 11 55 101 (hRM 55) flX11_111 rfl rfl rfl (by decide) dX11_keepsRow_15 rfl ?_
      refine V_iload_n 19 2 rfl rfl dX11_keepsRow_18 rfl ?_
      refine V_iload 21 0 rfl dX11_keepsRow_19 rfl ?_
      refine V_iadd 22 dX11_keepsRow_21 rfl ?_
      refine V_rw (nI_add q i) ?_
      refine V_aload_n 23 3 rfl _ rfl rfl dX11_keepsRow_22 rfl ?_
      refine V_iload 25 0 rfl dX11_keepsRow_23 rfl ?_
      refine V_ialdN 26 90 816 i (I 90 i) (by rw [upA_n (by decide)]) (by omega) (by decide) rfl (by decide) dX11_keepsRow_25 rfl ?_
      refine V_iastN 27 101 2604 (q + i) (by omega) (by decide) rfl (by decide) dX11_keepsRow_26 rfl ?_
      rw [upA_u]
      refine V_goto 43 rfl dX11_keepsRow_27 ?_
      refine V_iinc 46 0 rfl (nI (i + 1)) [(5, .int (nI (i + 1))), (0, rf G 69), (1, .int (nI q)), (2, rf G 90), (3, .int 816), (4, .int 1)] (nI_1 _) (by decide) rfl dX11_keepsRow_43 rfl ?_
      refine V_goto 3 rfl dX11_keepsRow_46 ?_
      exact V_lv [0, 1, 2, 3, 4, 5] rfl (ih _ (fun k hk => by
        by_cases e : k = i
        · subst e; exact upd_s
        · rw [upd_n (by omega)]; exact h1 k (by omega)) (fun j hj => by rw [upd_n (by omega)]; exact h2 j hj))
  show V _ _ _ _ _ _ _ _ [(0, rf G 69), (1, .int (nI q)), (2, rf G 90), (3, .int 816), (4, .int 1)] [] _ _ _ _ _
  refine V_iconst 1 (0) rfl dX11_keepsRow_0 rfl ?_
  refine V_istore 3 [(5, .int 0), (0, rf G 69), (1, .int (nI q)), (2, rf G 90), (3, .int 816), (4, .int 1)] (by decide) rfl dX11_keepsRow_1 rfl ?_
  refine V_rwI (upA_self (b := 101)) ?_
  exact V_lv [0, 1, 2, 3, 4, 5] rfl (L 0 (Nat.zero_le _) _ (fun k hk => absurd hk (Nat.not_lt_zero _)) (fun j hj => rfl))
theorem c_X11_keepsRow0_90 {G : Gx} {d : Nat} {I : FI} {R : FR} {J : FJ} {Q : Po} (hRM : ∀ k, R 69 k = refM k) {q : Nat} (hq0 : q + 816 ≤ 2604) (hq : ∀ g : DV, (∀ k, k < 816 → g k = I 101 (q + k)) → Q (.inl (some (.int (nI (q + 816))))) 103 (upA I 90 g) R J) : Cc G mX11_keepsRow d 0 0 [rf G 69, .int (nI q), rf G 90, .int 816, .int 0] 103 I R J Q := by
  have L : ∀ i, i ≤ 816 → ∀ g : DV, (∀ k, k < i → g k = I 101 (q + k)) → V G mX11_keepsRow d 0 0 0 0 3 [(5, .int (nI i)), (0, rf G 69), (1, .int (nI q)), (2, rf G 90), (3, .int 816), (4, .int 0)] [] 103 (upA I 90 g) R J Q := by
    refine loopd 816 (fun g h1 => ?_) (fun i hi ih g h1 => ?_)
    · refine V_iload 5 0 rfl dX11_keepsRow_3 rfl ?_
      refine V_iload_n 6 4 rfl rfl dX11_keepsRow_5 rfl ?_
      refine V_icmp_ge 49 9 rfl dX11_keepsRow_6 rfl (fun c6 => ?_) (fun c6 => absurd (Int32.le_refl _) c6)
      refine V_iload_n 50 2 rfl rfl dX11_keepsRow_49 rfl ?_
      refine V_iload_n 51 4 rfl rfl dX11_keepsRow_50 rfl ?_
      refine V_iadd 52 dX11_keepsRow_51 rfl ?_
      refine V_rw (nI_add q 816) ?_
      refine V_ret_i rfl rfl (Nat.le_of_ble_eq_true rfl) (fun h => absurd h (by decide)) (Nat.le_of_ble_eq_true rfl) (hq g h1) dX11_keepsRow_52
    · refine V_iload 5 0 rfl dX11_keepsRow_3 rfl ?_
      refine V_iload_n 6 4 rfl rfl dX11_keepsRow_5 rfl ?_
      refine V_icmp_ge 49 9 rfl dX11_keepsRow_6 rfl (fun c6 => absurd c6 (nI_ge hi (by decide))) (fun c6 => ?_)
      refine V_iload 11 5 rfl dX11_keepsRow_9 rfl ?_
      refine V_if_eq 30 14 rfl dX11_keepsRow_11 rfl (fun c11 => ?_) (fun c11 => absurd c11 (by decide))
      refine V_aload_n 31 3 rfl _ rfl rfl dX11_keepsRow_30 rfl ?_
      refine V_iload 33 0 rfl dX11_keepsRow_31 rfl ?_
      refine V_aload_n 34 1 rfl _ rfl rfl dX11_keepsRow_33 rfl ?_
      refine V_getR 37 69 11 55 101 (hRM 55) flX11_111 rfl rfl rfl (by decide) dX11_keepsRow_34 rfl ?_
      refine V_iload_n 38 2 rfl rfl dX11_keepsRow_37 rfl ?_
      refine V_iload 40 0 rfl dX11_keepsRow_38 rfl ?_
      refine V_iadd 41 dX11_keepsRow_40 rfl ?_
      refine V_rw (nI_add q i) ?_
      refine V_ialdN 42 101 2604 (q + i) (I 101 (q + i)) (by rw [upA_n (by decide)]) (by omega) (by decide) rfl (by decide) dX11_keepsRow_41 rfl ?_
      refine V_iastN 43 90 816 i (by omega) (by decide) rfl (by decide) dX11_keepsRow_42 rfl ?_
      rw [upA_u]
      refine V_iinc 46 0 rfl (nI (i + 1)) [(5, .int (nI (i + 1))), (0, rf G 69), (1, .int (nI q)), (2, rf G 90), (3, .int 816), (4, .int 0)] (nI_1 _) (by decide) rfl dX11_keepsRow_43 rfl ?_
      refine V_goto 3 rfl dX11_keepsRow_46 ?_
      exact V_lv [0, 1, 2, 3, 4, 5] rfl (ih _ (fun k hk => by
        by_cases e : k = i
        · subst e; exact upd_s
        · rw [upd_n (by omega)]; exact h1 k (by omega)))
  show V _ _ _ _ _ _ _ _ [(0, rf G 69), (1, .int (nI q)), (2, rf G 90), (3, .int 816), (4, .int 0)] [] _ _ _ _ _
  refine V_iconst 1 (0) rfl dX11_keepsRow_0 rfl ?_
  refine V_istore 3 [(5, .int 0), (0, rf G 69), (1, .int (nI q)), (2, rf G 90), (3, .int 816), (4, .int 0)] (by decide) rfl dX11_keepsRow_1 rfl ?_
  refine V_rwI (upA_self (b := 90)) ?_
  exact V_lv [0, 1, 2, 3, 4, 5] rfl (L 0 (Nat.zero_le _) _ (fun k hk => absurd hk (Nat.not_lt_zero _)))
theorem c_X11_keepsAll1 {G : Gx} {d : Nat} {I : FI} {R : FR} {J : FJ} {Q : Po} (hRM : ∀ k, R 69 k = refM k) {i : Nat} (hi : i < 3) (hq : ∀ g : DV, (∀ k, k < 51 → g (868 * i + k) = I 88 k) → (∀ k, k < 816 → g (868 * i + 51 + k) = I 90 k) → g (868 * i + 867) = I 69 35 → (∀ j, j < 868 * i → g j = I 101 j) → Q (.inl none) 103 (upA I 101 g) R J) : Cc G mX11_keepsAll (d + 1) 0 0 [rf G 69, .int (nI i), .int 1] 103 I R J Q := by
  show V _ _ _ _ _ _ _ _ [(0, rf G 69), (1, .int (nI i)), (2, .int 1)] [] _ _ _ _ _
  refine V_aload_n 1 0 rfl _ rfl rfl dX11_keepsAll_0 rfl ?_
  refine V_sipush 4 (868) rfl dX11_keepsAll_1 rfl ?_
  refine V_iload_n 5 1 rfl rfl dX11_keepsAll_4 rfl ?_
  refine V_imul 6 dX11_keepsAll_5 rfl ?_
  refine V_rw (pk_mul 868 i) ?_
  refine V_aload_n 7 0 rfl _ rfl rfl dX11_keepsAll_6 rfl ?_
  refine V_getR 10 69 11 40 88 (hRM 40) flX11_71 rfl rfl rfl (by decide) dX11_keepsAll_7 rfl ?_
  refine V_bipush 12 (51) rfl dX11_keepsAll_10 rfl ?_
  refine V_iload_n 13 2 rfl rfl dX11_keepsAll_12 rfl ?_
  refine V_callV (K' := 0) (S' := 0) 16 69 11 4 [.int (nI (868 * i)), rf G 88, .int 51, .int 1] mkX11_keepsRow lkX11_455 (by decide) rfl rfl (by decide) rfl (Nat.le_of_ble_eq_true rfl) (Nat.le_of_ble_eq_true rfl) (Nat.le_of_ble_eq_true rfl) (Nat.le_of_ble_eq_true rfl) rfl rfl dX11_keepsAll_13 rfl (c_X11_keepsRow1_88 (q := 868 * i) hRM (by omega) (fun g u1 u2 => ?_))
  refine Kq_i (k' := 0) (sl' := 0) rfl rfl ?_
  refine V_istore_n 17 [(3, .int (nI (868 * i + 51))), (0, rf G 69), (1, .int (nI i)), (2, .int 1)] (by decide) rfl rfl dX11_keepsAll_16 rfl ?_
  refine V_aload_n 18 1 rfl _ rfl rfl dX11_keepsAll_17 rfl ?_
  refine V_iload_n 19 0 rfl rfl dX11_keepsAll_18 rfl ?_
  refine V_aload_n 20 1 rfl _ rfl rfl dX11_keepsAll_19 rfl ?_
  refine V_getR 23 69 11 42 90 (hRM 42) flX11_77 rfl rfl rfl (by decide) dX11_keepsAll_20 rfl ?_
  refine V_sipush 26 (816) rfl dX11_keepsAll_23 rfl ?_
  refine V_iload_n 27 3 rfl rfl dX11_keepsAll_26 rfl ?_
  refine V_callV (K' := 0) (S' := 0) 30 69 11 4 [.int (nI (868 * i + 51)), rf G 90, .int 816, .int 1] mkX11_keepsRow lkX11_455 (by decide) rfl rfl (by decide) rfl (Nat.le_of_ble_eq_true rfl) (Nat.le_of_ble_eq_true rfl) (Nat.le_of_ble_eq_true rfl) (Nat.le_of_ble_eq_true rfl) rfl rfl dX11_keepsAll_27 rfl (c_X11_keepsRow1_90 (q := 868 * i + 51) hRM (by omega) (fun h v1 v2 => ?_))
  refine Kq_i (k' := 0) (sl' := 0) rfl rfl ?_
  rw [upA_upA]
  rw [upA_s] at v2
  have v1' : ∀ k, k < 816 → h (868 * i + 51 + k) = I 90 k := fun k hk => (v1 k hk).trans (by rw [upA_n (by decide)])
  refine V_istore_n 31 [(3, .int (nI (868 * i + 51 + 816))), (0, rf G 69), (1, .int (nI i)), (2, .int 1)] (by decide) rfl rfl dX11_keepsAll_30 rfl ?_
  refine V_iload_n 32 3 rfl rfl dX11_keepsAll_31 rfl ?_
  refine V_if_eq 48 35 rfl dX11_keepsAll_32 rfl (fun c32 => absurd c32 (by decide)) (fun c32 => ?_)
  refine V_aload_n 36 1 rfl _ rfl rfl dX11_keepsAll_35 rfl ?_
  refine V_getR 39 69 11 55 101 (hRM 55) flX11_111 rfl rfl rfl (by decide) dX11_keepsAll_36 rfl ?_
  refine V_iload_n 40 0 rfl rfl dX11_keepsAll_39 rfl ?_
  refine V_aload_n 41 1 rfl _ rfl rfl dX11_keepsAll_40 rfl ?_
  refine V_getI 44 69 11 35 (I 69 35) (by rw [upA_n (by decide)]) flX11_194 rfl rfl rfl (by decide) dX11_keepsAll_41 rfl ?_
  refine V_iastN 45 101 2604 (868 * i + 51 + 816) (by omega) (by decide) rfl (by decide) dX11_keepsAll_44 rfl ?_
  rw [upA_u]
  refine V_goto 58 rfl dX11_keepsAll_45 ?_
  refine V_ret_v rfl (Nat.le_of_ble_eq_true rfl) (fun h => absurd h (by decide)) (Nat.le_of_ble_eq_true rfl) (hq _ (fun k hk => by rw [upd_n (by omega), v2 _ (by omega)]; exact u1 k hk) (fun k hk => by rw [upd_n (by omega)]; exact v1' k hk) upd_s (fun j hj => by rw [upd_n (by omega), v2 _ (by omega)]; exact u2 j (by omega))) dX11_keepsAll_58
theorem c_X11_keepsAll0 {G : Gx} {d : Nat} {I : FI} {R : FR} {J : FJ} {Q : Po} (hRM : ∀ k, R 69 k = refM k) {i : Nat} (hi : i < 3) (hq : ∀ I', (∀ k, k < 51 → I' 88 k = I 101 (868 * i + k)) → (∀ k, k < 816 → I' 90 k = I 101 (868 * i + 51 + k)) → I' 69 35 = I 101 (868 * i + 867) → (∀ a, a ≠ 69 → a ≠ 88 → a ≠ 90 → I' a = I a) → (∀ j, j ≠ 35 → I' 69 j = I 69 j) → Q (.inl none) 103 I' R J) : Cc G mX11_keepsAll (d + 1) 0 0 [rf G 69, .int (nI i), .int 0] 103 I R J Q := by
  show V _ _ _ _ _ _ _ _ [(0, rf G 69), (1, .int (nI i)), (2, .int 0)] [] _ _ _ _ _
  refine V_aload_n 1 0 rfl _ rfl rfl dX11_keepsAll_0 rfl ?_
  refine V_sipush 4 (868) rfl dX11_keepsAll_1 rfl ?_
  refine V_iload_n 5 1 rfl rfl dX11_keepsAll_4 rfl ?_
  refine V_imul 6 dX11_keepsAll_5 rfl ?_
  refine V_rw (pk_mul 868 i) ?_
  refine V_aload_n 7 0 rfl _ rfl rfl dX11_keepsAll_6 rfl ?_
  refine V_getR 10 69 11 40 88 (hRM 40) flX11_71 rfl rfl rfl (by decide) dX11_keepsAll_7 rfl ?_
  refine V_bipush 12 (51) rfl dX11_keepsAll_10 rfl ?_
  refine V_iload_n 13 2 rfl rfl dX11_keepsAll_12 rfl ?_
  refine V_callV (K' := 0) (S' := 0) 16 69 11 4 [.int (nI (868 * i)), rf G 88, .int 51, .int 0] mkX11_keepsRow lkX11_455 (by decide) rfl rfl (by decide) rfl (Nat.le_of_ble_eq_true rfl) (Nat.le_of_ble_eq_true rfl) (Nat.le_of_ble_eq_true rfl) (Nat.le_of_ble_eq_true rfl) rfl rfl dX11_keepsAll_13 rfl (c_X11_keepsRow0_88 (q := 868 * i) hRM (by omega) (fun g u1 => ?_))
  refine Kq_i (k' := 0) (sl' := 0) rfl rfl ?_
  refine V_istore_n 17 [(3, .int (nI (868 * i + 51))), (0, rf G 69), (1, .int (nI i)), (2, .int 0)] (by decide) rfl rfl dX11_keepsAll_16 rfl ?_
  refine V_aload_n 18 1 rfl _ rfl rfl dX11_keepsAll_17 rfl ?_
  refine V_iload_n 19 0 rfl rfl dX11_keepsAll_18 rfl ?_
  refine V_aload_n 20 1 rfl _ rfl rfl dX11_keepsAll_19 rfl ?_
  refine V_getR 23 69 11 42 90 (hRM 42) flX11_77 rfl rfl rfl (by decide) dX11_keepsAll_20 rfl ?_
  refine V_sipush 26 (816) rfl dX11_keepsAll_23 rfl ?_
  refine V_iload_n 27 3 rfl rfl dX11_keepsAll_26 rfl ?_
  refine V_callV (K' := 0) (S' := 0) 30 69 11 4 [.int (nI (868 * i + 51)), rf G 90, .int 816, .int 0] mkX11_keepsRow lkX11_455 (by decide) rfl rfl (by decide) rfl (Nat.le_of_ble_eq_true rfl) (Nat.le_of_ble_eq_true rfl) (Nat.le_of_ble_eq_true rfl) (Nat.le_of_ble_eq_true rfl) rfl rfl dX11_keepsAll_27 rfl (c_X11_keepsRow0_90 (q := 868 * i + 51) hRM (by omega) (fun h v1 => ?_))
  refine Kq_i (k' := 0) (sl' := 0) rfl rfl ?_
  refine V_istore_n 31 [(3, .int (nI (868 * i + 51 + 816))), (0, rf G 69), (1, .int (nI i)), (2, .int 0)] (by decide) rfl rfl dX11_keepsAll_30 rfl ?_
  refine V_iload_n 32 3 rfl rfl dX11_keepsAll_31 rfl ?_
  refine V_if_eq 48 35 rfl dX11_keepsAll_32 rfl (fun c32 => ?_) (fun c32 => absurd c32 (by decide))
  refine V_aload_n 49 1 rfl _ rfl rfl dX11_keepsAll_48 rfl ?_
  refine V_aload_n 50 1 rfl _ rfl rfl dX11_keepsAll_49 rfl ?_
  refine V_getR 53 69 11 55 101 (hRM 55) flX11_111 rfl rfl rfl (by decide) dX11_keepsAll_50 rfl ?_
  refine V_iload_n 54 0 rfl rfl dX11_keepsAll_53 rfl ?_
  refine V_ialdN 55 101 2604 (868 * i + 51 + 816) (I 101 (868 * i + 51 + 816)) (by rw [upA_n (by decide), upA_n (by decide)]) (by omega) (by decide) rfl (by decide) dX11_keepsAll_54 rfl ?_
  refine V_putI 58 69 11 35 flX11_194 rfl rfl rfl (by decide) rfl dX11_keepsAll_55 rfl ?_
  refine V_ret_v rfl (Nat.le_of_ble_eq_true rfl) (fun h => absurd h (by decide)) (Nat.le_of_ble_eq_true rfl) (hq _ (fun k hk => by rw [up2_n _ _ _ (by decide), upA_n (by decide), upA_s]; exact u1 k hk) (fun k hk => by rw [up2_n _ _ _ (by decide), upA_s, v1 k hk, upA_n (by decide)]) (by rw [up2_s]; exact upd_s) (fun a h1 h2 h3 => by rw [up2_n _ _ _ h1, upA_n h3, upA_n h2]) (fun j hj => by rw [up2_s, upd_n hj, upA_n (by decide), upA_n (by decide)])) dX11_keepsAll_58
theorem c_X11_image {G : Gx} {d : Nat} {I : FI} {R : FR} {J : FJ} {Q : Po} {s : SG} (hX : SM I R s) (hS : SI s) {cd : Nat} (hq : HR I R J Q cd (imageT s)) : Cc G mX11_image (d + 900) 0 0 [rf G 69] 103 I R J Q := by
  obtain ⟨I0, hI0⟩ : ∃ I0, I0 = up2 I 69 0 0 := ⟨_, rfl⟩
  have hz := FrM.z hI0
  have hX0 := hX.q hz
  obtain ⟨⟨hRM, m2, m3, m4, m5, m6, m7⟩, ⟨t1, t2, t3⟩, ⟨b1, b2⟩, ⟨p1, p2, p3, p4⟩, r1, r2, r3⟩ := id hX0
  obtain ⟨s1, s2, s3, s4, s5, s6, s7, s8, s9, s10⟩ := hS
  have ht : I0 69 0 = 0 := hz.2.1
  have i0 : ∀ a, a ≠ 69 → I0 a = I a := fun a h => by rw [hI0]; exact up2_n _ _ _ h
  unfold imageT at hq
  show V _ _ _ _ _ _ _ _ [(0, rf G 69)] [] _ _ _ _ _
  by_cases c0 : s.mn = 3
  · rw [if_pos c0] at hq
    refine V_aload_n 1 0 rfl _ rfl rfl dX11_image_0 rfl ?_
    refine V_iconst 2 (0) rfl dX11_image_1 rfl ?_
    refine V_putI 5 69 11 0 flX11_3 rfl rfl rfl (by decide) rfl dX11_image_2 rfl ?_
    rw [← hI0]
    refine V_aload_n 6 0 rfl _ rfl rfl dX11_image_5 rfl ?_
    refine V_getI 9 69 11 56 (nI s.mn) p2 flX11_197 rfl rfl rfl (by decide) dX11_image_6 rfl ?_
    refine V_iconst 10 (3) rfl dX11_image_9 rfl ?_
    refine V_icmp_ne 15 13 rfl dX11_image_10 rfl (fun c10 => absurd (show nI s.mn = 3 by rw [c0]; rfl) c10) (fun c10 => ?_)
    refine V_iconst 14 (-1) rfl dX11_image_13 rfl ?_
    refine V_ret_i rfl rfl (Nat.le_of_ble_eq_true rfl) (fun h => absurd h (by decide)) (Nat.le_of_ble_eq_true rfl) (hq I0 hX0 (fun a ha => i0 a (by omega)) ht (i0 102 (by decide))) dX11_image_14
  · rw [if_neg c0] at hq
    refine V_aload_n 1 0 rfl _ rfl rfl dX11_image_0 rfl ?_
    refine V_iconst 2 (0) rfl dX11_image_1 rfl ?_
    refine V_putI 5 69 11 0 flX11_3 rfl rfl rfl (by decide) rfl dX11_image_2 rfl ?_
    rw [← hI0]
    refine V_aload_n 6 0 rfl _ rfl rfl dX11_image_5 rfl ?_
    refine V_getI 9 69 11 56 (nI s.mn) p2 flX11_197 rfl rfl rfl (by decide) dX11_image_6 rfl ?_
    refine V_iconst 10 (3) rfl dX11_image_9 rfl ?_
    refine V_icmp_ne 15 13 rfl dX11_image_10 rfl (fun c10 => ?_) (fun c10 => absurd (fun e => c0 ((nI_eq (b := 3) (by omega) (by decide)).mp e)) (fun q => q c10))
    refine V_aload_n 16 0 rfl _ rfl rfl dX11_image_15 rfl ?_
    refine V_aload_n 17 0 rfl _ rfl rfl dX11_image_16 rfl ?_
    refine V_getI 20 69 11 56 (nI s.mn) p2 flX11_197 rfl rfl rfl (by decide) dX11_image_17 rfl ?_
    refine V_iconst 21 (1) rfl dX11_image_20 rfl ?_
    refine V_callV (K' := 0) (S' := 0) 24 69 11 2 [.int (nI s.mn), .int 1] mkX11_keepsAll lkX11_459 (by decide) rfl rfl (by decide) rfl (Nat.le_of_ble_eq_true rfl) (Nat.le_of_ble_eq_true rfl) (Nat.le_of_ble_eq_true rfl) (Nat.le_of_ble_eq_true rfl) rfl rfl dX11_image_21 rfl (c_X11_keepsAll1 hRM (by omega) (fun g u1 u2 u3 u4 => ?_))
    refine Kq_v (k' := 0) (sl' := 0) rfl rfl ?_
    refine V_aload_n 25 0 rfl _ rfl rfl dX11_image_24 rfl ?_
    refine V_dup 26 rfl dX11_image_25 rfl ?_
    refine V_getI 29 69 11 56 (nI s.mn) (by rw [upA_n (by decide)]; exact p2) flX11_197 rfl rfl rfl (by decide) dX11_image_26 rfl ?_
    refine V_iconst 30 (1) rfl dX11_image_29 rfl ?_
    refine V_iadd 31 dX11_image_30 rfl ?_
    refine V_rw (nI_add s.mn 1) ?_
    refine V_putI 34 69 11 56 flX11_197 rfl rfl rfl (by decide) rfl dX11_image_31 rfl ?_
    obtain ⟨B, eB⟩ : ∃ B, B = up2 (upA I0 101 g) 69 56 (nI (s.mn + 1)) := ⟨_, rfl⟩
    rw [← eB]
    have u : ∀ a, a ≠ 69 → a ≠ 101 → B a = I0 a := fun a h1 h2 => by rw [eB, up2_n _ _ _ h1, upA_n h2]
    have v : ∀ j, j ≠ 56 → B 69 j = I0 69 j := fun j h1 => by rw [eB, up2_s, upd_n h1, upA_n (by decide)]
    have v56 : B 69 56 = nI (s.mn + 1) := by rw [eB, up2_s]; exact upd_s
    have w101 : B 101 = g := by rw [eB, up2_n _ _ _ (by decide), upA_s]
    have hf : SM B R (mkS s.K s.f s.D s.t s.tn s.nb s.bk s.wn s.W (s.mn + 1) (fun i => if i = s.mn then s.D else s.M i) (fun i => if i = s.mn then s.wn else s.mw i) (fun i => if i = s.mn then s.W else s.MW i) s.rs s.fl s.mi s.wr) := by
      refine ⟨⟨hRM, m2.fr (v 21 (by decide)) (v 22 (by decide)) (v 23 (by decide)) (fun a q1 q2 => u a (by omega) (by omega)), m3, fun k hk => by rw [u 88 (by decide) (by decide)]; exact m4 k hk, m5, m6.fr (v 30 (by decide)) (u 82 (by decide) (by decide)) (u 83 (by decide) (by decide)), m7⟩, ⟨?_, ?_, ?_⟩, ⟨?_, ?_⟩, ⟨?_, v56, ?_, fun i hi => ?_⟩, ?_, ?_, ?_⟩
      · rw [v 2 (by decide)]; exact t1
      · rw [u 71 (by decide) (by decide)]; exact t2
      · rw [v 8 (by decide)]; exact t3
      · rw [v 46 (by decide)]; exact b1
      · rw [u 93 (by decide) (by decide)]; exact b2
      · rw [v 35 (by decide)]; exact p1
      · rw [u 90 (by decide) (by decide)]; exact p3
      · have hi1 : i < s.mn + 1 := hi
        rw [w101]
        show g (868 * i + 867) = nI (if i = s.mn then s.wn else s.mw i) ∧ (∀ k, k < 51 → g (868 * i + k) = (if i = s.mn then s.D else s.M i) k) ∧ ∀ j, j < (if i = s.mn then s.wn else s.mw i) → ∀ k, k < 51 → g (868 * i + 51 + (51 * j + k)) = (if i = s.mn then s.W else s.MW i) j k
        by_cases q : i = s.mn
        · subst q
          rw [if_pos rfl, if_pos rfl, if_pos rfl]
          refine ⟨u3.trans p1, fun k hk => (u1 k hk).trans (m4 k hk), fun j hj k hk => (u2 _ (by omega)).trans (p3 j hj k hk)⟩
        · rw [if_neg q, if_neg q, if_neg q]
          obtain ⟨y1, y2, y3⟩ := p4 i (by omega)
          have y4 := (s10 i (by omega)).2.1
          refine ⟨(u4 _ (by omega)).trans y1, fun k hk => (u4 _ (by omega)).trans (y2 k hk), fun j hj k hk => (u4 _ (by omega)).trans (y3 j hj k hk)⟩
      · rw [v 36 (by decide)]; exact r1
      · rw [u 70 (by decide) (by decide)]; exact r2
      · rw [u 70 (by decide) (by decide)]; exact r3
    refine V_aload_n 35 0 rfl _ rfl rfl dX11_image_34 rfl ?_
    refine V_getI 38 69 11 56 (nI (s.mn + 1)) v56 flX11_197 rfl rfl rfl (by decide) dX11_image_35 rfl ?_
    refine V_ret_i rfl rfl (Nat.le_of_ble_eq_true rfl) (fun h => absurd h (by decide)) (Nat.le_of_ble_eq_true rfl) (hq B hf (fun a ha => by rw [u a (by omega) (by omega)]; exact i0 a (by omega)) (by rw [v 0 (by decide)]; exact ht) (by rw [u 102 (by decide) (by decide)]; exact i0 102 (by decide))) dX11_image_38
theorem c_X11_restore {G : Gx} {d : Nat} {I : FI} {R : FR} {J : FJ} {Q : Po} {s : SG} (hX : SM I R s) (hS : SI s) {cd : Nat} (hq : HR I R J Q cd (restT s)) : Cc G mX11_restore (d + 900) 0 0 [rf G 69] 103 I R J Q := by
  obtain ⟨I0, hI0⟩ : ∃ I0, I0 = up2 I 69 0 0 := ⟨_, rfl⟩
  have hz := FrM.z hI0
  have hX0 := hX.q hz
  obtain ⟨⟨hRM, m2, m3, m4, m5, m6, m7⟩, ⟨t1, t2, t3⟩, ⟨b1, b2⟩, ⟨p1, p2, p3, p4⟩, r1, r2, r3⟩ := id hX0
  obtain ⟨s1, s2, s3, s4, s5, s6, s7, s8, s9, s10⟩ := hS
  have ht : I0 69 0 = 0 := hz.2.1
  have i0 : ∀ a, a ≠ 69 → I0 a = I a := fun a h => by rw [hI0]; exact up2_n _ _ _ h
  unfold restT at hq
  show V _ _ _ _ _ _ _ _ [(0, rf G 69)] [] _ _ _ _ _
  by_cases c0 : s.mn = 0
  · rw [if_pos c0] at hq
    refine V_aload_n 1 0 rfl _ rfl rfl dX11_restore_0 rfl ?_
    refine V_iconst 2 (0) rfl dX11_restore_1 rfl ?_
    refine V_putI 5 69 11 0 flX11_3 rfl rfl rfl (by decide) rfl dX11_restore_2 rfl ?_
    rw [← hI0]
    refine V_aload_n 6 0 rfl _ rfl rfl dX11_restore_5 rfl ?_
    refine V_getI 9 69 11 56 (nI s.mn) p2 flX11_197 rfl rfl rfl (by decide) dX11_restore_6 rfl ?_
    refine V_if_ne 14 12 rfl dX11_restore_9 rfl (fun c9 => absurd (show nI s.mn = 0 by rw [c0]; rfl) c9) (fun c9 => ?_)
    refine V_iconst 13 (-1) rfl dX11_restore_12 rfl ?_
    refine V_ret_i rfl rfl (Nat.le_of_ble_eq_true rfl) (fun h => absurd h (by decide)) (Nat.le_of_ble_eq_true rfl) (hq I0 hX0 (fun a ha => i0 a (by omega)) ht (i0 102 (by decide))) dX11_restore_13
  · rw [if_neg c0] at hq
    obtain ⟨A, eA⟩ : ∃ A, A = up2 I0 69 56 (nI (s.mn - 1)) := ⟨_, rfl⟩
    have a1 : ∀ a, a ≠ 69 → A a = I0 a := fun a h => by rw [eA]; exact up2_n _ _ _ h
    have a2 : ∀ j, j ≠ 56 → A 69 j = I0 69 j := fun j h => by rw [eA, up2_s, upd_n h]
    have a56 : A 69 56 = nI (s.mn - 1) := by rw [eA, up2_s]; exact upd_s
    obtain ⟨y1, y2, y3⟩ := p4 (s.mn - 1) (by omega)
    have y4 := s10 (s.mn - 1) (by omega)
    refine V_aload_n 1 0 rfl _ rfl rfl dX11_restore_0 rfl ?_
    refine V_iconst 2 (0) rfl dX11_restore_1 rfl ?_
    refine V_putI 5 69 11 0 flX11_3 rfl rfl rfl (by decide) rfl dX11_restore_2 rfl ?_
    rw [← hI0]
    refine V_aload_n 6 0 rfl _ rfl rfl dX11_restore_5 rfl ?_
    refine V_getI 9 69 11 56 (nI s.mn) p2 flX11_197 rfl rfl rfl (by decide) dX11_restore_6 rfl ?_
    refine V_if_ne 14 12 rfl dX11_restore_9 rfl (fun c9 => ?_) (fun c9 => absurd c9 (nI_ne0 (by omega) (by omega)))
    refine V_aload_n 15 0 rfl _ rfl rfl dX11_restore_14 rfl ?_
    refine V_dup 16 rfl dX11_restore_15 rfl ?_
    refine V_getI 19 69 11 56 (nI s.mn) p2 flX11_197 rfl rfl rfl (by decide) dX11_restore_16 rfl ?_
    refine V_iconst 20 (1) rfl dX11_restore_19 rfl ?_
    refine V_isub 21 dX11_restore_20 rfl ?_
    refine V_rw (nI_sub (a := s.mn) (b := 1) (by omega)) ?_
    refine V_putI 24 69 11 56 flX11_197 rfl rfl rfl (by decide) rfl dX11_restore_21 rfl ?_
    rw [← eA]
    refine V_aload_n 25 0 rfl _ rfl rfl dX11_restore_24 rfl ?_
    refine V_aload_n 26 0 rfl _ rfl rfl dX11_restore_25 rfl ?_
    refine V_getI 29 69 11 56 (nI (s.mn - 1)) a56 flX11_197 rfl rfl rfl (by decide) dX11_restore_26 rfl ?_
    refine V_iconst 30 (0) rfl dX11_restore_29 rfl ?_
    refine V_callV (K' := 0) (S' := 0) 33 69 11 2 [.int (nI (s.mn - 1)), .int 0] mkX11_keepsAll lkX11_459 (by decide) rfl rfl (by decide) rfl (Nat.le_of_ble_eq_true rfl) (Nat.le_of_ble_eq_true rfl) (Nat.le_of_ble_eq_true rfl) (Nat.le_of_ble_eq_true rfl) rfl rfl dX11_restore_30 rfl (c_X11_keepsAll0 hRM (i := s.mn - 1) (by omega) (fun I2 u1 u2 u3 u4 u5 => ?_))
    refine Kq_v (k' := 0) (sl' := 0) rfl rfl ?_
    refine V_aload_n 34 0 rfl _ rfl rfl dX11_restore_33 rfl ?_
    refine V_iconst 35 (0) rfl dX11_restore_34 rfl ?_
    refine V_putI 38 69 11 36 flX11_200 rfl rfl rfl (by decide) rfl dX11_restore_35 rfl ?_
    obtain ⟨B, eB⟩ : ∃ B, B = up2 I2 69 36 0 := ⟨_, rfl⟩
    rw [← eB]
    have u : ∀ a, a ≠ 69 → a ≠ 88 → a ≠ 90 → B a = I0 a := fun a h1 h2 h3 => by rw [eB, up2_n _ _ _ h1, u4 a h1 h2 h3]; exact a1 a h1
    have v : ∀ j, j ≠ 56 → j ≠ 36 → j ≠ 35 → B 69 j = I0 69 j := fun j h1 h2 h3 => by rw [eB, up2_s, upd_n h2, u5 j h3]; exact a2 j h1
    have v56 : B 69 56 = nI (s.mn - 1) := by rw [eB, up2_s, upd_n (by decide), u5 56 (by decide)]; exact a56
    have v35 : B 69 35 = nI (s.mw (s.mn - 1)) := by rw [eB, up2_s, upd_n (by decide), u3, a1 101 (by decide)]; exact y1
    have hf : SM B R (mkS s.K s.f (s.M (s.mn - 1)) s.t s.tn s.nb s.bk (s.mw (s.mn - 1)) (s.MW (s.mn - 1)) (s.mn - 1) s.M s.mw s.MW 0 s.fl s.mi s.wr) := by
      refine ⟨⟨hRM, m2.fr (v 21 (by decide) (by decide) (by decide)) (v 22 (by decide) (by decide) (by decide)) (v 23 (by decide) (by decide) (by decide)) (fun a q1 q2 => u a (by omega) (by omega) (by omega)), m3, fun k hk => ?_, y4.1.1, m6.fr (v 30 (by decide) (by decide) (by decide)) (u 82 (by decide) (by decide) (by decide)) (u 83 (by decide) (by decide) (by decide)), m7⟩, ⟨?_, ?_, ?_⟩, ⟨?_, ?_⟩, ⟨v35, v56, fun j hj k hk => ?_, fun i hi => ?_⟩, ?_, ?_, ?_⟩
      · rw [eB, up2_n _ _ _ (by decide), u1 k hk, a1 101 (by decide)]; exact y2 k hk
      · rw [v 2 (by decide) (by decide) (by decide)]; exact t1
      · rw [u 71 (by decide) (by decide) (by decide)]; exact t2
      · rw [v 8 (by decide) (by decide) (by decide)]; exact t3
      · rw [v 46 (by decide) (by decide) (by decide)]; exact b1
      · rw [u 93 (by decide) (by decide) (by decide)]; exact b2
      · have hj1 : j < s.mw (s.mn - 1) := hj
        have y5 := y4.2.1
        rw [eB, up2_n _ _ _ (by decide), u2 _ (by omega), a1 101 (by decide)]; exact y3 j hj1 k hk
      · have hi1 : i < s.mn - 1 := hi
        rw [u 101 (by decide) (by decide) (by decide)]; exact p4 i (by omega)
      · rw [eB, up2_s]; exact upd_s
      · rw [u 70 (by decide) (by decide) (by decide)]; exact r2
      · rw [u 70 (by decide) (by decide) (by decide)]; exact r3
    refine V_aload_n 39 0 rfl _ rfl rfl dX11_restore_38 rfl ?_
    refine V_getI 42 69 11 56 (nI (s.mn - 1)) v56 flX11_197 rfl rfl rfl (by decide) dX11_restore_39 rfl ?_
    refine V_ret_i rfl rfl (Nat.le_of_ble_eq_true rfl) (fun h => absurd h (by decide)) (Nat.le_of_ble_eq_true rfl) (hq B hf (fun a ha => by rw [u a (by omega) (by omega) (by omega)]; exact i0 a (by omega)) (by rw [v 0 (by decide) (by decide) (by decide)]; exact ht) (by rw [u 102 (by decide) (by decide) (by decide)]; exact i0 102 (by decide))) dX11_restore_42
