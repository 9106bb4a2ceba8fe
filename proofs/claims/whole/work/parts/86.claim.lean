/-! ===== the claim ===== -/
abbrev fPre : List Cond := flatC (Jvm.Cond.and given_1 narrow_1)
def stIx : List Nat := [37, 75, 82, 92, 99, 107, 116, 124, 133, 142, 151, 159, 167, 175, 185, 193, 201, 209, 217, 225, 232, 239, 248, 257, 287, 295, 306, 314, 323, 333, 342, 352, 362, 372, 381, 390, 399, 410, 420, 429, 438, 447, 456, 464, 472]
def stTm (i : Nat) : Term := .string (strL.getD i ("", 0, "")).1 (strL.getD i ("", 0, "")).2.1
theorem m_ex : ∀ i, i < 45 → fPre[stIx.getD i 0]? = some (Cond.exactly (stTm i) "java/lang/String") := by decide +kernel
theorem m_co : ∀ i, i < 45 → fPre[stIx.getD i 0 + 1]? = some (Cond.eq (.field (stTm i) "java/lang/String" "coder" "B") (.int 0)) := by decide +kernel
theorem m_ar : ∀ i, i < 45 → fPre[stIx.getD i 0 + 2]? = some (Cond.arrayOf (.field (stTm i) "java/lang/String" "value" "[B") .byte) := by decide +kernel
theorem m_le : ∀ i, i < 45 → fPre[stIx.getD i 0 + 3]? = some (Cond.eq (.length (.field (stTm i) "java/lang/String" "value" "[B")) (.int (Int32.ofNat (strB i).length))) := by decide +kernel
theorem m_el : ∀ i, i < 45 → ∀ j, j < (strB i).length → fPre[stIx.getD i 0 + 4 + j]? = some (Cond.eq (.elem (.field (stTm i) "java/lang/String" "value" "[B") (.int (Int32.ofNat j))) (.int ((strB i).getD j 0))) := by decide +kernel
theorem TSg_sub {w : Cond} (h : w ∈ TSg) : w ∈ lw_tbl := (List.mem_filter.mp h).1
theorem NW_sub {w : Cond} (h : w ∈ NW) : w ∈ lw_tbl := (List.mem_filter.mp h).1
theorem XW_sub {w : Cond} (h : w ∈ XW) : w ∈ lw_tbl := (List.mem_filter.mp h).1
theorem str_word : ∀ i, i < 45 → (Cond.stringRef (strL.getD i ("", 0, "")).1 (strL.getD i ("", 0, "")).2.1 (strL.getD i ("", 0, "")).2.2) ∈ lw_tbl := by decide +kernel
theorem strL_len : strL.length = 45 := by decide
theorem arr_of {ty : FieldType} {args : Array Value} {s : State} (harr : (Cond.arrayClass ty).before args s = true) : ∃ cA : ClassId, ArrOfT s cA ty ∧ s.vm.findClass ("[" ++ ty.toString) = some cA := by
  obtain ⟨cA, kA, comp, hfind, hk, hkind⟩ := Cond.arrayClass_spec harr
  exact ⟨cA, fun n z => ⟨fun k h => (by cases h), kA, hk, comp, hkind⟩, hfind⟩
theorem room_less {s : State} {pl : Platform} {R R' : Room} (h : s.hasRoom pl R = true) (h1 : R'.frames ≤ R.frames) (h2 : R'.cells ≤ R.cells) (h3 : R'.slots ≤ R.slots) (h4 : R'.locals ≤ R.locals) : s.hasRoom pl R' = true := by
  simp only [State.hasRoom, Bool.and_eq_true, decide_eq_true_eq] at h ⊢
  obtain ⟨⟨⟨⟨a1, a2, a3, a4, a5, a6⟩, a7⟩, a8⟩, a9⟩ := h
  exact ⟨⟨⟨⟨by omega, by omega, by omega, by omega, by omega, a6⟩, by omega⟩, by omega⟩, a9⟩
theorem Ev_start {l : Launch} {s : State} {b L : Nat} {xs : Nat → Int32} (hf : l.stackTraces = false) (hts : ∀ w ∈ lw_tbl, w.before #[Value.ref b] s = true) (hX : va_X b L xs s s.heap) (hbl : b < s.heap.size) (hgv : (Jvm.Cond.and given_1 narrow_1).before #[Value.ref b] s = true) : ∃ G : Gx, g_l G = l ∧ g_b G = s.heap.size ∧ g_s G = b ∧ g_L G = L ∧ g_x G = xs ∧ Ev G s := by
  have hp : ∀ w ∈ fPre, w.before #[Value.ref b] s = true := flat_of_before _ hgv
  have hA : ∀ a : Nat, a < s.heap.size → ¬ (fun q : Nat => s.heap.size ≤ q) a := fun a h => Nat.not_le.mpr h
  have h0 : ∀ c : Nat, ∃ x : ClassId × (Nat → Nat), ∀ q : vw_C, vwCl[c]? = some q → u_Kn s q.1 q.2.1 q.2.2 x.1 x.2 := by
    intro c
    match c with
    | 0 =>
      obtain ⟨cC, iS, h⟩ := u_known (C := RX0) (T := TX0) (N := 11) (n := 11) hts inX0 (hts _ (TSg_sub nkX10_47.2.1))
      exact ⟨(cC, iS), fun q e => by cases e; exact h⟩
    | 1 =>
      obtain ⟨cC, iS, h⟩ := u_known (C := RX1) (T := TX1) (N := 3) (n := 3) hts inX1 (hts _ (TSg_sub nkX10_75.2.1))
      exact ⟨(cC, iS), fun q e => by cases e; exact h⟩
    | 2 =>
      obtain ⟨cC, iS, h⟩ := u_known (C := RX2) (T := TX2) (N := 9) (n := 9) hts inX2 (hts _ (TSg_sub nkX10_61.2.1))
      exact ⟨(cC, iS), fun q e => by cases e; exact h⟩
    | 3 =>
      obtain ⟨cC, iS, h⟩ := u_known (C := RX3) (T := TX3) (N := 9) (n := 9) hts inX3 (hts _ (TSg_sub nkX10_23.2.1))
      exact ⟨(cC, iS), fun q e => by cases e; exact h⟩
    | 4 =>
      obtain ⟨cC, iS, h⟩ := u_known (C := RX4) (T := TX4) (N := 5) (n := 5) hts inX4 (hts _ (TSg_sub nkX10_40.2.1))
      exact ⟨(cC, iS), fun q e => by cases e; exact h⟩
    | 5 =>
      obtain ⟨cC, iS, h⟩ := u_known (C := RX5) (T := TX5) (N := 5) (n := 5) hts inX5 (hts _ (TSg_sub nkX10_68.2.1))
      exact ⟨(cC, iS), fun q e => by cases e; exact h⟩
    | 6 =>
      obtain ⟨cC, iS, h⟩ := u_known (C := RX6) (T := TX6) (N := 1) (n := 1) hts inX6 (hts _ (TSg_sub nkX10_54.2.1))
      exact ⟨(cC, iS), fun q e => by cases e; exact h⟩
    | 7 =>
      obtain ⟨cC, iS, h⟩ := u_known (C := RX7) (T := TX7) (N := 4) (n := 4) hts inX7 (hts _ (TSg_sub nkX10_16.2.1))
      exact ⟨(cC, iS), fun q e => by cases e; exact h⟩
    | 8 =>
      obtain ⟨cC, iS, h⟩ := u_known (C := RX8) (T := TX8) (N := 9) (n := 9) hts inX8 (hts _ (TSg_sub nkX10_7.2.1))
      exact ⟨(cC, iS), fun q e => by cases e; exact h⟩
    | 9 =>
      obtain ⟨cC, iS, h⟩ := u_known (C := RX9) (T := TX9) (N := 8) (n := 8) hts inX9 (hts _ (TSg_sub nkX10_33.2.1))
      exact ⟨(cC, iS), fun q e => by cases e; exact h⟩
    | 10 =>
      obtain ⟨cC, iS, h⟩ := u_known (C := RX10) (T := TX10) (N := 15) (n := 15) hts inX10 (hts _ (TSg_sub nkL_8.2.1))
      exact ⟨(cC, iS), fun q e => by cases e; exact h⟩
    | 11 =>
      obtain ⟨cC, iS, h⟩ := u_known (C := RX11) (T := TX11) (N := 57) (n := 57) hts inX11 (hts _ (TSg_sub nkL_105.2.1))
      exact ⟨(cC, iS), fun q e => by cases e; exact h⟩
    | c + 12 => exact ⟨(0, fun _ => 0), fun q e => by simp [vwCl] at e⟩
  obtain ⟨fc, hfc⟩ := Classical.axiomOfChoice h0
  obtain ⟨c0, a0, b0⟩ := arr_of (hts _ (TSg_sub ac_int))
  obtain ⟨c1, a1, b1⟩ := arr_of (hts _ (TSg_sub ac_byte))
  obtain ⟨c2, a2, b2⟩ := arr_of (hts _ (TSg_sub ac_boolean))
  obtain ⟨c3, a3, b3⟩ := arr_of (hts _ (TSg_sub ac_long))
  have hS0 : ∀ i : Nat, ∃ q : Nat × Nat, i < 45 → (stTm i).eval #[Value.ref b] s none [] s = some (.ref q.1) ∧ va_O "java/lang/String" q.1 (fun q : Nat => s.heap.size ≤ q) s s.heap ∧ va_OF "java/lang/String" "coder" "B" (.int 0) q.1 (fun q : Nat => s.heap.size ≤ q) s s.heap ∧ va_OF "java/lang/String" "value" "[B" (.ref q.2) q.1 (fun q : Nat => s.heap.size ≤ q) s s.heap ∧ va_T .byte q.2 (strB i).length (fun j => .int ((strB i).getD j 0)) (fun q : Nat => s.heap.size ≤ q) s s.heap := by
    intro i
    by_cases hi : i < 45
    · have hex := hp _ (List.mem_of_getElem? (m_ex i hi))
      obtain ⟨a, c, cA, kA, q1, q2, q3, q4, q5, q6, -⟩ := Cond.exactly_spec (args := #[Value.ref b]) (first := s) (o := none) (s := s) (idx := []) (t := stTm i) (cls := "java/lang/String") hex
      obtain ⟨t, ht, hT⟩ := va_Tof (f := fun j => .int ((strB i).getD j 0)) (A := fun q : Nat => s.heap.size ≤ q) (by have := (str_ok i hi).1; omega) (hp _ (List.mem_of_getElem? (m_ar i hi))) (va_eqt (hp _ (List.mem_of_getElem? (m_le i hi)))) (fun j hj => va_eqt (hp _ (List.mem_of_getElem? (m_el i hi j hj)))) hA
      exact ⟨(a, t), fun _ => ⟨q1, ⟨cA, q3, q5, by rw [q6]; exact q2, hA a (Array.getElem?_eq_some_iff.mp q3).1⟩, vk_OFof q1 (va_eqt (hp _ (List.mem_of_getElem? (m_co i hi)))) hA, vk_OFof q1 ht hA, hT⟩⟩
    · exact ⟨(0, 0), fun h => absurd h hi⟩
  obtain ⟨ad, had⟩ := Classical.axiomOfChoice hS0
  refine ⟨(l, fun c => (fc c).1, fun c => (fc c).2, fun t => match t with | 0 => c0 | 1 => c1 | 2 => c2 | _ => c3, s.heap.size, fun i => (ad i).1, fun i => (ad i).2, b, L, xs), rfl, rfl, rfl, rfl, rfl, hf, Nat.le_refl _, ⟨fun c q e => hfc c q e, fun k q e => ?_⟩, fun w hw => va_Nw.of (NW_tab hw) (hts w (NW_sub hw)), fun i q e => ?_, fun i hi => (had i hi).2, ?_, ?_, ?_, hX, hbl, fun w hw => va_Nw.of (XW_tab hw) (hts w (XW_sub hw)), ?_, ?_⟩
  · match k, e with
    | 0, e => cases e; exact ⟨a0, b0⟩
    | 1, e => cases e; exact ⟨a1, b1⟩
    | 2, e => cases e; exact ⟨a2, b2⟩
    | 3, e => cases e; exact ⟨a3, b3⟩
    | k + 4, e => simp [g_tys] at e
  · have hi : i < 45 := by rw [← strL_len]; exact (List.getElem?_eq_some_iff.mp e).1
    have eg : strL.getD i ("", 0, "") = q := by rw [List.getD_eq_getElem?_getD, e]; rfl
    have hw := hts _ (str_word i hi)
    have he := (had i hi).1
    unfold stTm at he
    rw [eg] at hw he
    exact vk_R.of hw he
  · exact va_Zof (hts _ (List.mem_of_getElem? (i := 704) (by decide +kernel))) (hts _ (List.mem_of_getElem? (i := 111) (by decide +kernel))) (va_eqt (hp _ (List.mem_of_getElem? (i := 6) (by decide +kernel)))) hA
  · exact vx_Zqof (hts _ (List.mem_of_getElem? (i := 622) (by decide +kernel))) (hts _ (List.mem_of_getElem? (i := 107) (by decide +kernel))) (hp _ (List.mem_of_getElem? (i := 4) (by decide +kernel))) hA
  · exact vx_Zqof (hts _ (List.mem_of_getElem? (i := 624) (by decide +kernel))) (hts _ (List.mem_of_getElem? (i := 107) (by decide +kernel))) (hp _ (List.mem_of_getElem? (i := 5) (by decide +kernel))) hA
  · exact va_Nc.of (hp _ (List.mem_of_getElem? (i := 36) (by decide +kernel)))
  · exact va_Zqof (hts _ (List.mem_of_getElem? (i := 720) (by decide +kernel))) (hts _ (List.mem_of_getElem? (i := 113) (by decide +kernel))) (hp _ (List.mem_of_getElem? (i := 7) (by decide +kernel))) hA
