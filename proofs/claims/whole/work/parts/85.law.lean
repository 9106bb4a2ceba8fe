/-! ===== law ===== -/
theorem Z69_up {R : FR} {o k : Nat} {v : Option Nat} (h : ∀ a, 69 ≤ a → R a = fun _ => none) (ho : o < 69) : ∀ a, 69 ≤ a → upR R o k v a = fun _ => none := fun a ha => by rw [upR_n _ _ _ (by omega)]; exact h a ha
theorem Z69_RN {R : FR} {o m : Nat} (h : ∀ a, 69 ≤ a → R a = fun _ => none) (ho : o < 69) : ∀ a, 69 ≤ a → RN o m R a = fun _ => none := fun a ha => by rw [RN_n (by omega)]; exact h a ha
theorem RF_Z : ∀ a, 69 ≤ a → RF a = fun _ => none := by
  unfold RF
  repeat (first | refine Z69_up ?_ (by decide) | refine Z69_RN ?_ (by decide) | exact fun _ _ => rfl)
theorem law_loop {G : Gx} {d : Nat} (hL2 : g_L G ≤ 4608) : ∀ i, i ≤ g_L G / 9 → ∀ k sl s I R J, k ≤ 1000 + 8 * i → sl ≤ 100000 + 48 * i → SI s → SC I R s → SM I R s → V G mL_law_ (d + 902) 601024 7293034 k sl 23 (LV G i) [] 103 I R J QL := by
  have e9 : 9 ≤ g_L G → nI (g_L G) - 9 = nI (g_L G - 9) := fun h => pk_sub (b := 9) h
  refine loopd (g_L G / 9) (fun k sl s I R J hk hsl hS hX hM => ?_) (fun i hi ih k sl s I R J hk hsl hS hX hM => ?_)
  · have hgt : nI (g_L G) - 9 < nI (9 * (g_L G / 9)) := by
      by_cases q : 9 ≤ g_L G
      · rw [e9 q]; exact nI_lt (by omega) (by omega)
      · rw [show 9 * (g_L G / 9) = 0 by omega]; exact pk_sneg (b := 9) (by decide) (by omega)
    refine V_iload 25 0 rfl dL_law__23 rfl ?_
    refine V_aload_n 26 4 rfl _ rfl rfl dL_law__25 rfl ?_
    refine V_slen 27 dL_law__26 rfl ?_
    refine V_bipush 29 (9) rfl dL_law__27 rfl ?_
    refine V_isub 30 dL_law__29 rfl ?_
    refine V_icmp_gt 2358 33 rfl dL_law__30 rfl (fun c30 => ?_) (fun c30 => absurd hgt c30)
    refine V_iconst 2359 (1) rfl dL_law__2358 rfl ?_
    exact V_ret_i rfl rfl (by omega) (fun h => absurd h (by decide)) (by omega) rfl dL_law__2359
  · have hL : 9 * i + 9 ≤ g_L G := by omega
    have hng : ¬ nI (g_L G) - 9 < nI (9 * i) := by rw [e9 (by omega)]; exact nI_nlt (by omega) (by omega)
    have nd : ∀ k' sl' s' I' R' J', k' ≤ 1008 + 8 * i → sl' ≤ 100048 + 48 * i → SI s' → SC I' R' s' → SM I' R' s' → V G mL_law_ (d + 902) 601024 7293034 k' sl' 2352 (LV G i) [] 103 I' R' J' QL := by
      intro k' sl' s' I' R' J' hk' hsl' hS' hX' hM'
      refine V_iinc 2355 0 rfl (nI (9 * (i + 1))) [(4, .int (nI (9 * (i + 1)))), (3, rf G 102), (2, rf G 69), (1, rf G 0), (0, .ref (g_s G))] (by rw [show (Int32.ofInt 9) = nI 9 from rfl, nI_add, show 9 * (i + 1) = 9 * i + 9 by omega]) (by decide) rfl dL_law__2352 rfl ?_
      refine V_goto 23 rfl dL_law__2355 ?_
      exact V_lv [0, 1, 2, 3, 4] rfl (ih k' sl' s' I' R' J' (by omega) (by omega) hS' hX' hM')
    obtain ⟨j, hj, ej⟩ := pk_andE (sx G i 0) (m := 63) 6 rfl
    refine V_iload 25 0 rfl dL_law__23 rfl ?_
    refine V_aload_n 26 4 rfl _ rfl rfl dL_law__25 rfl ?_
    refine V_slen 27 dL_law__26 rfl ?_
    refine V_bipush 29 (9) rfl dL_law__27 rfl ?_
    refine V_isub 30 dL_law__29 rfl ?_
    refine V_icmp_gt 2358 33 rfl dL_law__30 rfl (fun c30 => absurd c30 hng) (fun c30 => ?_)
    refine V_aload_n 34 4 rfl _ rfl rfl dL_law__33 rfl ?_
    refine V_iload 36 0 rfl dL_law__34 rfl ?_
    refine V_sld 37 (sx G i 0) rfl (vp_in_nI (by omega) (by omega)) dL_law__36 rfl ?_
    refine V_bipush 39 (63) rfl dL_law__37 rfl ?_
    refine V_iand 40 dL_law__39 rfl ?_
    refine V_rw (ej) ?_
    rcases (show j = 0 ∨ j = 1 ∨ j = 2 ∨ j = 3 ∨ j = 4 ∨ j = 5 ∨ j = 6 ∨ j = 7 ∨ j = 8 ∨ j = 9 ∨ j = 10 ∨ j = 11 ∨ j = 12 ∨ j = 13 ∨ j = 14 ∨ j = 15 ∨ j = 16 ∨ j = 17 ∨ j = 18 ∨ j = 19 ∨ j = 20 ∨ j = 21 ∨ j = 22 ∨ j = 23 ∨ j = 24 ∨ j = 25 ∨ j = 26 ∨ j = 27 ∨ j = 28 ∨ j = 29 ∨ j = 30 ∨ j = 31 ∨ j = 32 ∨ j = 33 ∨ j = 34 ∨ 35 ≤ j by omega) with rfl | rfl | rfl | rfl | rfl | rfl | rfl | rfl | rfl | rfl | rfl | rfl | rfl | rfl | rfl | rfl | rfl | rfl | rfl | rfl | rfl | rfl | rfl | rfl | rfl | rfl | rfl | rfl | rfl | rfl | rfl | rfl | rfl | rfl | rfl | hj2
    · refine V_tabIn (off := 156) 196 (by decide) (by decide) (by decide) rfl dL_law__40 ?_
      exact lw_feed hX hM hS hL hL2 hk hsl nd
    · refine V_tabIn (off := 229) 269 (by decide) (by decide) (by decide) rfl dL_law__40 ?_
      exact lw_coast hX hM hS hL hL2 hk hsl nd
    · refine V_tabIn (off := 285) 325 (by decide) (by decide) (by decide) rfl dL_law__40 ?_
      exact lw_law hX hM hS hL hL2 hk hsl nd
    · refine V_tabIn (off := 341) 381 (by decide) (by decide) (by decide) rfl dL_law__40 ?_
      exact lw_work hX hM hS hL hL2 hk hsl nd
    · refine V_tabIn (off := 397) 437 (by decide) (by decide) (by decide) rfl dL_law__40 ?_
      exact lw_book hX hM hS hL hL2 hk hsl nd
    · refine V_tabIn (off := 453) 493 (by decide) (by decide) (by decide) rfl dL_law__40 ?_
      exact lw_fault hX hM hS hL hL2 hk hsl nd
    · refine V_tabIn (off := 466) 506 (by decide) (by decide) (by decide) rfl dL_law__40 ?_
      exact lw_undo hX hM hS hL hL2 hk hsl nd
    · refine V_tabIn (off := 479) 519 (by decide) (by decide) (by decide) rfl dL_law__40 ?_
      exact lw_told hX hM hS hL hL2 hk hsl nd
    · refine V_tabIn (off := 535) 575 (by decide) (by decide) (by decide) rfl dL_law__40 ?_
      exact lw_hat hX hM hS hL hL2 hk hsl nd
    · refine V_tabIn (off := 603) 643 (by decide) (by decide) (by decide) rfl dL_law__40 ?_
      exact lw_ground hX hM hS hL hL2 hk hsl nd
    · refine V_tabIn (off := 671) 711 (by decide) (by decide) (by decide) rfl dL_law__40 ?_
      exact lw_man hX hM hS hL hL2 hk hsl nd
    · refine V_tabIn (off := 739) 779 (by decide) (by decide) (by decide) rfl dL_law__40 ?_
      exact lw_sea hX hM hS hL hL2 hk hsl nd
    · refine V_tabIn (off := 795) 835 (by decide) (by decide) (by decide) rfl dL_law__40 ?_
      exact lw_would hX hM hS hL hL2 hk hsl nd
    · refine V_tabIn (off := 941) 981 (by decide) (by decide) (by decide) rfl dL_law__40 ?_
      exact lw_ahead hX hM hS hL hL2 hk hsl nd
    · refine V_tabIn (off := 1009) 1049 (by decide) (by decide) (by decide) rfl dL_law__40 ?_
      exact lw_doom hX hM hS hL hL2 hk hsl nd
    · refine V_tabIn (off := 1065) 1105 (by decide) (by decide) (by decide) rfl dL_law__40 ?_
      exact lw_suits hX hM hS hL hL2 hk hsl nd
    · refine V_tabIn (off := 1157) 1197 (by decide) (by decide) (by decide) rfl dL_law__40 ?_
      exact lw_hatted hX hM hS hL hL2 hk hsl nd
    · refine V_tabIn (off := 1213) 1253 (by decide) (by decide) (by decide) rfl dL_law__40 ?_
      exact lw_given hX hM hS hL hL2 hk hsl nd
    · refine V_tabIn (off := 1281) 1321 (by decide) (by decide) (by decide) rfl dL_law__40 ?_
      exact lw_line hX hM hS hL hL2 hk hsl nd
    · refine V_tabIn (off := 1349) 1389 (by decide) (by decide) (by decide) rfl dL_law__40 ?_
      exact lw_meets hX hM hS hL hL2 hk hsl nd
    · refine V_tabIn (off := 1429) 1469 (by decide) (by decide) (by decide) rfl dL_law__40 ?_
      exact lw_fits hX hM hS hL hL2 hk hsl nd
    · refine V_tabIn (off := 1497) 1537 (by decide) (by decide) (by decide) rfl dL_law__40 ?_
      exact lw_look hX hM hS hL hL2 hk hsl nd
    · refine V_tabIn (off := 1565) 1605 (by decide) (by decide) (by decide) rfl dL_law__40 ?_
      exact lw_fleet hX hM hS hL hL2 hk hsl nd
    · refine V_tabIn (off := 1633) 1673 (by decide) (by decide) (by decide) rfl dL_law__40 ?_
      exact lw_squall hX hM hS hL hL2 hk hsl nd
    · refine V_tabIn (off := 1712) 1752 (by decide) (by decide) (by decide) rfl dL_law__40 ?_
      exact lw_two hX hM hS hL hL2 hk hsl nd
    · refine V_tabIn (off := 1792) 1832 (by decide) (by decide) (by decide) rfl dL_law__40 ?_
      exact lw_share hX hM hS hL hL2 hk hsl nd
    · refine V_tabIn (off := 1872) 1912 (by decide) (by decide) (by decide) rfl dL_law__40 ?_
      exact lw_best hX hM hS hL hL2 hk hsl nd
    · refine V_tabIn (off := 1928) 1968 (by decide) (by decide) (by decide) rfl dL_law__40 ?_
      exact lw_from hX hM hS hL hL2 hk hsl nd
    · refine V_tabIn (off := 1984) 2024 (by decide) (by decide) (by decide) rfl dL_law__40 ?_
      exact lw_row hX hM hS hL hL2 hk hsl nd
    · refine V_tabIn (off := 2040) 2080 (by decide) (by decide) (by decide) rfl dL_law__40 ?_
      exact lw_season hX hM hS hL hL2 hk hsl nd
    · refine V_tabIn (off := 2132) 2172 (by decide) (by decide) (by decide) rfl dL_law__40 ?_
      exact lw_span hX hM hS hL hL2 hk hsl nd
    · refine V_tabIn (off := 2236) 2276 (by decide) (by decide) (by decide) rfl dL_law__40 ?_
      exact lw_image hX hM hS hL hL2 hk hsl nd
    · refine V_tabIn (off := 2249) 2289 (by decide) (by decide) (by decide) rfl dL_law__40 ?_
      exact lw_restore hX hM hS hL hL2 hk hsl nd
    · refine V_tabIn (off := 2262) 2302 (by decide) (by decide) (by decide) rfl dL_law__40 ?_
      exact lw_status hX hM hS hL hL2 hk hsl nd
    · refine V_tabIn (off := 2287) 2327 (by decide) (by decide) (by decide) rfl dL_law__40 ?_
      exact lw_count hX hM hS hL hL2 hk hsl nd
    · refine V_tabOut 2352 (Or.inr (by rw [nI_toInt (by omega)]; omega)) rfl dL_law__40 ?_
      exact nd k sl s I R J (by omega) (by omega) hS hX hM
theorem law_V {G : Gx} {d : Nat} (hL2 : g_L G ≤ 4608) : Cc G mL_law_ (d + 902) 601024 7293034 [.ref (g_s G)] 0 (fun _ _ => 0) (fun _ _ => none) (fun _ _ => 0) QL := by
  have hz0 : Zr 0 (fun _ _ => 0) (fun _ _ => none) := ⟨fun _ _ => rfl, fun _ _ => rfl⟩
  show V _ _ _ _ _ _ _ _ [(0, .ref (g_s G))] [] _ _ _ _ _
  refine V_new 3 10 nkL_8.1 nkL_8.2.1 nkL_8.2.2 (by decide) rfl (by decide) (Nat.le_of_ble_eq_true rfl) (Nat.le_of_ble_eq_true rfl) dL_law__0 rfl ?_
  refine V_rwI (new_I (hz0.1 0 (by decide))) ?_
  refine V_rwR (new_R (hz0.2 0 (by decide))) ?_
  refine V_nks (n' := 1) (k' := 1) (sl' := 15) rfl rfl rfl ?_
  refine V_dup 4 rfl dL_law__3 rfl ?_
  refine V_callI (K' := 68) (S' := 6881) 7 0 0 [] mkX10_init rfl lkL_104 rfl (Nat.le_of_ble_eq_true rfl) (Nat.le_of_ble_eq_true rfl) (Nat.le_of_ble_eq_true rfl) (Nat.le_of_ble_eq_true rfl) rfl rfl dL_law__4 rfl (fun o n1 I1 R1 J1 => o = .inl none ∧ 69 = n1 ∧ (LawC I1 11 stdF ∧ DayC I1 18 (day0 K0) ∧ (∀ a, a ≠ 1 → (a < 11 ∨ 14 < a) → (a < 58 ∨ 61 < a) → (a < 18 ∨ 25 < a) → I1 a = fun _ => 0) ∧ I1 1 = upd (fun _ => 0) 8 (-1)) ∧ RF = R1 ∧ (fun _ _ => 0) = J1) (fun _ _ _ _ _ h => absurd h.1 (fun e => nomatch e)) (fun v n' IA R' J' h => ?_) (i_X10 (d := d + 891) (fun _ a b c e => ⟨rfl, rfl, ⟨a, b, c, e⟩, rfl, rfl⟩))
  obtain ⟨hv, rfl, ⟨a1, a2, a3, a4⟩, rfl, rfl⟩ := h
  cases hv
  have z69 : Zr 69 IA RF := ⟨fun a ha => a3 a (by omega) (by omega) (by omega) (by omega), RF_Z⟩
  refine V_nks (n' := 69) (k' := 69) (sl' := 6896) rfl rfl rfl ?_
  refine V_astore_n 8 _ rfl [(1, rf G 0), (0, .ref (g_s G))] (by decide) rfl rfl dL_law__7 rfl ?_
  refine V_new 11 11 nkL_105.1 nkL_105.2.1 nkL_105.2.2 (by decide) rfl (by decide) (Nat.le_of_ble_eq_true rfl) (Nat.le_of_ble_eq_true rfl) dL_law__8 rfl ?_
  refine V_rwI (new_I (z69.1 69 (by decide))) ?_
  refine V_rwR (new_R (z69.2 69 (by decide))) ?_
  refine V_nks (n' := 70) (k' := 70) (sl' := 6953) rfl rfl rfl ?_
  refine V_dup 12 rfl dL_law__11 rfl ?_
  refine V_callI (K' := 32) (S' := 8486) 15 69 0 [] mkX11_init rfl lkL_107 rfl (Nat.le_of_ble_eq_true rfl) (Nat.le_of_ble_eq_true rfl) (Nat.le_of_ble_eq_true rfl) (Nat.le_of_ble_eq_true rfl) rfl rfl dL_law__12 rfl (fun o n1 I2 R1 J1 => o = .inl none ∧ 102 = n1 ∧ (∃ I1, FrY (up2 IA 69 8 (-1)) I1 ∧ SetM I1 I2 K0) ∧ RX 56 RF = R1 ∧ (fun _ _ => 0) = J1) (fun _ _ _ _ _ h => absurd h.1 (fun e => nomatch e)) (fun v n' IB R' J' h => ?_) (i_X11 (d := d + 891) z69 (fun _ _ a b => ⟨rfl, rfl, ⟨_, a, b⟩, rfl, rfl⟩))
  obtain ⟨hv, rfl, ⟨I1, b1, b2⟩, rfl, rfl⟩ := h
  cases hv
  refine V_nks (n' := 102) (k' := 102) (sl' := 15439) rfl rfl rfl ?_
  refine V_astore_n 16 _ rfl [(2, rf G 69), (1, rf G 0), (0, .ref (g_s G))] (by decide) rfl rfl dL_law__15 rfl ?_
  refine V_iconst 17 (1) rfl dL_law__16 rfl ?_
  refine V_newl 19 1 ac_long rfl (by decide) (by decide) rfl (by decide) (Nat.le_of_ble_eq_true rfl) (Nat.le_of_ble_eq_true rfl) dL_law__17 rfl ?_
  obtain ⟨J0, eJ0⟩ : ∃ J0 : FJ, J0 = fun a => if a = 102 then (fun _ => 0) else (fun _ _ => 0 : FJ) a := ⟨_, rfl⟩
  rw [← eJ0]
  refine V_nks (n' := 103) (k' := 103) (sl' := 15440) rfl rfl rfl ?_
  refine V_astore_n 20 _ rfl [(3, rf G 102), (2, rf G 69), (1, rf G 0), (0, .ref (g_s G))] (by decide) rfl rfl dL_law__19 rfl ?_
  refine V_iconst 21 (0) rfl dL_law__20 rfl ?_
  refine V_istore 23 [(4, .int 0), (3, rf G 102), (2, rf G 69), (1, rf G 0), (0, .ref (g_s G))] (by decide) rfl dL_law__21 rfl ?_
  exact V_lv [0, 1, 2, 3, 4] rfl (law_loop hL2 0 (Nat.zero_le _) 103 15440 s00 IB (RX 56 RF) J0 (by decide) (by decide) s00_I (start_C a1 a2 a3 a4 b1 b2) (start_M (fun a ha => a3 a (by omega) (by omega) (by omega) (by omega)) b1 b2))
