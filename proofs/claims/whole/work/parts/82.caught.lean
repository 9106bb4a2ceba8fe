/-! ===== law's own methods: a call, caught ===== -/
/-- what is told of an answer: 0, or which refusal -/
def thC (cd : Nat) (o : Oc) : Int32 := match o with
  | .inl _ => 0
  | .inr k => nI (if k = 0 then 1 else cd)
def thL (cd : Nat) (o : OcL) : Int32 := match o with
  | .inl _ => 0
  | .inr k => nI (if k = 0 then 1 else cd)
def oQL (o : OcL) : Ot := match o with
  | .inl v => .inl (some (.long v))
  | .inr k => .inr k
def aftL (o : OcL) (s : SG) : SG := match o with
  | .inl _ => s
  | .inr k => bump k s
def HCL (I : FI) (R : FR) (J : FJ) (Q : Po) (x : OcL × SG) : Prop := ∀ I' R', SC I' R' x.2 → FrCl I I' R R' → Q (oQL x.1) 103 I' R' J
theorem HCL.q {I : FI} {R : FR} {J : FJ} {Q : Po} {c l b : Nat} {s : SG} {o : OcL} (hX : SCx I R c l b s) (ho : ∀ k, o = .inr k → k < 2) (h : HCL I R J Q (o, aftL o s)) : HoL I R J Q o := by
  cases o with
  | inl v => exact h I R ⟨c, l, b, hX⟩ ⟨fun _ _ => rfl, fun _ => rfl⟩
  | inr k =>
    intro I' hf'
    have hk := ho k rfl
    subst hf'
    exact h _ R ⟨c, l, b, hX.bump k hk⟩ ⟨fun a ha => up2_n _ _ _ (by omega), fun _ => rfl⟩
theorem cl13 : Cond.classLink RL 13 "java/lang/IllegalArgumentException" ∈ TSg := (TSg_at 579 (by decide +kernel) rfl)
theorem cl31 : Cond.classLink RL 31 "java/util/NoSuchElementException" ∈ TSg := (TSg_at 1031 (by decide +kernel) rfl)
theorem ca13 : Cond.castable "java/lang/IllegalArgumentException" "java/lang/IllegalArgumentException" ∈ XW := XW_at 597 (by decide +kernel) rfl
theorem ca31 : Cond.castable "java/util/NoSuchElementException" "java/util/NoSuchElementException" ∈ XW := XW_at 1042 (by decide +kernel) rfl
theorem mkL_ahead : MdOkW mL_ahead 4 := ⟨by decide, (TSg_at 1091 (by decide +kernel) rfl), (TSg_at 91 (by decide +kernel) rfl), by decide +kernel, ⟨by decide +kernel, by decide +kernel, by decide +kernel⟩, by decide⟩
theorem hnL_ahead : Hnd mL_ahead 5 (fun x => if x = 1 then some 13 else none) := by
  intro x h e
  dsimp only at e
  by_cases c : x = 1
  · subst c
    rw [if_pos rfl] at e
    cases e
    exact ⟨[], _, [], _, rfl, fun z hz => absurd hz List.not_mem_nil, rfl, by decide, rfl, cl13, ca13⟩
  · rw [if_neg c] at e; cases e
theorem mkL_best : MdOkW mL_best 3 := ⟨by decide, (TSg_at 1287 (by decide +kernel) rfl), (TSg_at 91 (by decide +kernel) rfl), by decide +kernel, ⟨by decide +kernel, by decide +kernel, by decide +kernel⟩, by decide⟩
theorem hnL_best : Hnd mL_best 4 (fun x => if x = 1 then some 12 else none) := by
  intro x h e
  dsimp only at e
  by_cases c : x = 1
  · subst c
    rw [if_pos rfl] at e
    cases e
    exact ⟨[], _, [], _, rfl, fun z hz => absurd hz List.not_mem_nil, rfl, by decide, rfl, cl13, ca13⟩
  · rw [if_neg c] at e; cases e
theorem mkL_book : MdOkW mL_book 3 := ⟨by decide, (TSg_at 982 (by decide +kernel) rfl), (TSg_at 91 (by decide +kernel) rfl), by decide +kernel, ⟨by decide +kernel, by decide +kernel, by decide +kernel⟩, by decide⟩
theorem hnL_book : Hnd mL_book 4 (fun x => if x = 1 then some 12 else none) := by
  intro x h e
  dsimp only at e
  by_cases c : x = 1
  · subst c
    rw [if_pos rfl] at e
    cases e
    exact ⟨[], _, [], _, rfl, fun z hz => absurd hz List.not_mem_nil, rfl, by decide, rfl, cl13, ca13⟩
  · rw [if_neg c] at e; cases e
theorem mkL_coast : MdOkW mL_coast 3 := ⟨by decide, (TSg_at 578 (by decide +kernel) rfl), (TSg_at 91 (by decide +kernel) rfl), by decide +kernel, ⟨by decide +kernel, by decide +kernel, by decide +kernel⟩, by decide⟩
theorem hnL_coast : Hnd mL_coast 4 (fun x => if x = 1 then some 12 else none) := by
  intro x h e
  dsimp only at e
  by_cases c : x = 1
  · subst c
    rw [if_pos rfl] at e
    cases e
    exact ⟨[], _, [], _, rfl, fun z hz => absurd hz List.not_mem_nil, rfl, by decide, rfl, cl13, ca13⟩
  · rw [if_neg c] at e; cases e
theorem mkL_doom : MdOkW mL_doom 3 := ⟨by decide, (TSg_at 1107 (by decide +kernel) rfl), (TSg_at 91 (by decide +kernel) rfl), by decide +kernel, ⟨by decide +kernel, by decide +kernel, by decide +kernel⟩, by decide⟩
theorem hnL_doom : Hnd mL_doom 4 (fun x => if x = 0 then some 12 else none) := by
  intro x h e
  dsimp only at e
  by_cases c : x = 0
  · subst c
    rw [if_pos rfl] at e
    cases e
    exact ⟨[], _, [], _, rfl, fun z hz => absurd hz List.not_mem_nil, rfl, by decide, rfl, cl31, ca31⟩
  · rw [if_neg c] at e; cases e
theorem mkL_fits : MdOkW mL_fits 4 := ⟨by decide, (TSg_at 1198 (by decide +kernel) rfl), (TSg_at 91 (by decide +kernel) rfl), by decide +kernel, ⟨by decide +kernel, by decide +kernel, by decide +kernel⟩, by decide⟩
theorem hnL_fits : Hnd mL_fits 5 (fun x => if x = 0 then some 13 else if x = 1 then some 17 else none) := by
  intro x h e
  dsimp only at e
  by_cases c : x = 0
  · subst c
    rw [if_pos rfl] at e
    cases e
    exact ⟨[], _, _, _, rfl, fun z hz => absurd hz List.not_mem_nil, rfl, by decide, rfl, cl31, ca31⟩
  · rw [if_neg c] at e
    by_cases c1 : x = 1
    · subst c1
      rw [if_pos rfl] at e
      cases e
      refine ⟨[_], _, [], _, rfl, fun z hz => ?_, rfl, by decide, rfl, cl13, ca13⟩
      rw [List.mem_singleton.mp hz]
      exact ⟨by decide, cl31, rfl⟩
    · rw [if_neg c1] at e; cases e
theorem mkL_fleet : MdOkW mL_fleet 4 := ⟨by decide, (TSg_at 1235 (by decide +kernel) rfl), (TSg_at 91 (by decide +kernel) rfl), by decide +kernel, ⟨by decide +kernel, by decide +kernel, by decide +kernel⟩, by decide⟩
theorem hnL_fleet : Hnd mL_fleet 5 (fun x => if x = 0 then some 13 else if x = 1 then some 17 else none) := by
  intro x h e
  dsimp only at e
  by_cases c : x = 0
  · subst c
    rw [if_pos rfl] at e
    cases e
    exact ⟨[], _, _, _, rfl, fun z hz => absurd hz List.not_mem_nil, rfl, by decide, rfl, cl31, ca31⟩
  · rw [if_neg c] at e
    by_cases c1 : x = 1
    · subst c1
      rw [if_pos rfl] at e
      cases e
      refine ⟨[_], _, [], _, rfl, fun z hz => ?_, rfl, by decide, rfl, cl13, ca13⟩
      rw [List.mem_singleton.mp hz]
      exact ⟨by decide, cl31, rfl⟩
    · rw [if_neg c1] at e; cases e
theorem mkL_from : MdOkW mL_from 3 := ⟨by decide, (TSg_at 1298 (by decide +kernel) rfl), (TSg_at 91 (by decide +kernel) rfl), by decide +kernel, ⟨by decide +kernel, by decide +kernel, by decide +kernel⟩, by decide⟩
theorem hnL_from : Hnd mL_from 4 (fun x => if x = 1 then some 12 else none) := by
  intro x h e
  dsimp only at e
  by_cases c : x = 1
  · subst c
    rw [if_pos rfl] at e
    cases e
    exact ⟨[], _, [], _, rfl, fun z hz => absurd hz List.not_mem_nil, rfl, by decide, rfl, cl13, ca13⟩
  · rw [if_neg c] at e; cases e
theorem mkL_given : MdOkW mL_given 4 := ⟨by decide, (TSg_at 1162 (by decide +kernel) rfl), (TSg_at 91 (by decide +kernel) rfl), by decide +kernel, ⟨by decide +kernel, by decide +kernel, by decide +kernel⟩, by decide⟩
theorem hnL_given : Hnd mL_given 5 (fun x => if x = 0 then some 13 else none) := by
  intro x h e
  dsimp only at e
  by_cases c : x = 0
  · subst c
    rw [if_pos rfl] at e
    cases e
    exact ⟨[], _, [], _, rfl, fun z hz => absurd hz List.not_mem_nil, rfl, by decide, rfl, cl31, ca31⟩
  · rw [if_neg c] at e; cases e
theorem mkL_ground : MdOkW mL_ground 4 := ⟨by decide, (TSg_at 1059 (by decide +kernel) rfl), (TSg_at 91 (by decide +kernel) rfl), by decide +kernel, ⟨by decide +kernel, by decide +kernel, by decide +kernel⟩, by decide⟩
theorem hnL_ground : Hnd mL_ground 5 (fun x => if x = 0 then some 13 else if x = 1 then some 17 else none) := by
  intro x h e
  dsimp only at e
  by_cases c : x = 0
  · subst c
    rw [if_pos rfl] at e
    cases e
    exact ⟨[], _, _, _, rfl, fun z hz => absurd hz List.not_mem_nil, rfl, by decide, rfl, cl31, ca31⟩
  · rw [if_neg c] at e
    by_cases c1 : x = 1
    · subst c1
      rw [if_pos rfl] at e
      cases e
      refine ⟨[_], _, [], _, rfl, fun z hz => ?_, rfl, by decide, rfl, cl13, ca13⟩
      rw [List.mem_singleton.mp hz]
      exact ⟨by decide, cl31, rfl⟩
    · rw [if_neg c1] at e; cases e
theorem mkL_hat : MdOkW mL_hat 4 := ⟨by decide, (TSg_at 1030 (by decide +kernel) rfl), (TSg_at 91 (by decide +kernel) rfl), by decide +kernel, ⟨by decide +kernel, by decide +kernel, by decide +kernel⟩, by decide⟩
theorem hnL_hat : Hnd mL_hat 5 (fun x => if x = 0 then some 13 else if x = 1 then some 17 else none) := by
  intro x h e
  dsimp only at e
  by_cases c : x = 0
  · subst c
    rw [if_pos rfl] at e
    cases e
    exact ⟨[], _, _, _, rfl, fun z hz => absurd hz List.not_mem_nil, rfl, by decide, rfl, cl31, ca31⟩
  · rw [if_neg c] at e
    by_cases c1 : x = 1
    · subst c1
      rw [if_pos rfl] at e
      cases e
      refine ⟨[_], _, [], _, rfl, fun z hz => ?_, rfl, by decide, rfl, cl13, ca13⟩
      rw [List.mem_singleton.mp hz]
      exact ⟨by decide, cl31, rfl⟩
    · rw [if_neg c1] at e; cases e
theorem mkL_hatted : MdOkW mL_hatted 3 := ⟨by decide, (TSg_at 1131 (by decide +kernel) rfl), (TSg_at 91 (by decide +kernel) rfl), by decide +kernel, ⟨by decide +kernel, by decide +kernel, by decide +kernel⟩, by decide⟩
theorem hnL_hatted : Hnd mL_hatted 4 (fun x => if x = 0 then some 12 else none) := by
  intro x h e
  dsimp only at e
  by_cases c : x = 0
  · subst c
    rw [if_pos rfl] at e
    cases e
    exact ⟨[], _, [], _, rfl, fun z hz => absurd hz List.not_mem_nil, rfl, by decide, rfl, cl31, ca31⟩
  · rw [if_neg c] at e; cases e
theorem mkL_law : MdOkW mL_law 3 := ⟨by decide, (TSg_at 788 (by decide +kernel) rfl), (TSg_at 91 (by decide +kernel) rfl), by decide +kernel, ⟨by decide +kernel, by decide +kernel, by decide +kernel⟩, by decide⟩
theorem hnL_law : Hnd mL_law 4 (fun x => if x = 1 then some 12 else none) := by
  intro x h e
  dsimp only at e
  by_cases c : x = 1
  · subst c
    rw [if_pos rfl] at e
    cases e
    exact ⟨[], _, [], _, rfl, fun z hz => absurd hz List.not_mem_nil, rfl, by decide, rfl, cl13, ca13⟩
  · rw [if_neg c] at e; cases e
theorem mkL_line : MdOkW mL_line 4 := ⟨by decide, (TSg_at 1169 (by decide +kernel) rfl), (TSg_at 91 (by decide +kernel) rfl), by decide +kernel, ⟨by decide +kernel, by decide +kernel, by decide +kernel⟩, by decide⟩
theorem hnL_line : Hnd mL_line 5 (fun x => if x = 0 then some 13 else if x = 1 then some 17 else none) := by
  intro x h e
  dsimp only at e
  by_cases c : x = 0
  · subst c
    rw [if_pos rfl] at e
    cases e
    exact ⟨[], _, _, _, rfl, fun z hz => absurd hz List.not_mem_nil, rfl, by decide, rfl, cl31, ca31⟩
  · rw [if_neg c] at e
    by_cases c1 : x = 1
    · subst c1
      rw [if_pos rfl] at e
      cases e
      refine ⟨[_], _, [], _, rfl, fun z hz => ?_, rfl, by decide, rfl, cl13, ca13⟩
      rw [List.mem_singleton.mp hz]
      exact ⟨by decide, cl31, rfl⟩
    · rw [if_neg c1] at e; cases e
theorem mkL_look : MdOkW mL_look 4 := ⟨by decide, (TSg_at 1218 (by decide +kernel) rfl), (TSg_at 91 (by decide +kernel) rfl), by decide +kernel, ⟨by decide +kernel, by decide +kernel, by decide +kernel⟩, by decide⟩
theorem hnL_look : Hnd mL_look 5 (fun x => if x = 0 then some 13 else if x = 1 then some 17 else none) := by
  intro x h e
  dsimp only at e
  by_cases c : x = 0
  · subst c
    rw [if_pos rfl] at e
    cases e
    exact ⟨[], _, _, _, rfl, fun z hz => absurd hz List.not_mem_nil, rfl, by decide, rfl, cl31, ca31⟩
  · rw [if_neg c] at e
    by_cases c1 : x = 1
    · subst c1
      rw [if_pos rfl] at e
      cases e
      refine ⟨[_], _, [], _, rfl, fun z hz => ?_, rfl, by decide, rfl, cl13, ca13⟩
      rw [List.mem_singleton.mp hz]
      exact ⟨by decide, cl31, rfl⟩
    · rw [if_neg c1] at e; cases e
theorem mkL_man : MdOkW mL_man 4 := ⟨by decide, (TSg_at 1067 (by decide +kernel) rfl), (TSg_at 91 (by decide +kernel) rfl), by decide +kernel, ⟨by decide +kernel, by decide +kernel, by decide +kernel⟩, by decide⟩
theorem hnL_man : Hnd mL_man 5 (fun x => if x = 0 then some 13 else if x = 1 then some 17 else none) := by
  intro x h e
  dsimp only at e
  by_cases c : x = 0
  · subst c
    rw [if_pos rfl] at e
    cases e
    exact ⟨[], _, _, _, rfl, fun z hz => absurd hz List.not_mem_nil, rfl, by decide, rfl, cl31, ca31⟩
  · rw [if_neg c] at e
    by_cases c1 : x = 1
    · subst c1
      rw [if_pos rfl] at e
      cases e
      refine ⟨[_], _, [], _, rfl, fun z hz => ?_, rfl, by decide, rfl, cl13, ca13⟩
      rw [List.mem_singleton.mp hz]
      exact ⟨by decide, cl31, rfl⟩
    · rw [if_neg c1] at e; cases e
theorem mkL_meets : MdOkW mL_meets 5 := ⟨by decide, (TSg_at 1181 (by decide +kernel) rfl), (TSg_at 91 (by decide +kernel) rfl), by decide +kernel, ⟨by decide +kernel, by decide +kernel, by decide +kernel⟩, by decide⟩
theorem hnL_meets : Hnd mL_meets 7 (fun x => if x = 0 then some 15 else if x = 1 then some 19 else none) := by
  intro x h e
  dsimp only at e
  by_cases c : x = 0
  · subst c
    rw [if_pos rfl] at e
    cases e
    exact ⟨[], _, _, _, rfl, fun z hz => absurd hz List.not_mem_nil, rfl, by decide, rfl, cl31, ca31⟩
  · rw [if_neg c] at e
    by_cases c1 : x = 1
    · subst c1
      rw [if_pos rfl] at e
      cases e
      refine ⟨[_], _, [], _, rfl, fun z hz => ?_, rfl, by decide, rfl, cl13, ca13⟩
      rw [List.mem_singleton.mp hz]
      exact ⟨by decide, cl31, rfl⟩
    · rw [if_neg c1] at e; cases e
theorem mkL_row : MdOkW mL_row 3 := ⟨by decide, (TSg_at 1309 (by decide +kernel) rfl), (TSg_at 91 (by decide +kernel) rfl), by decide +kernel, ⟨by decide +kernel, by decide +kernel, by decide +kernel⟩, by decide⟩
theorem hnL_row : Hnd mL_row 4 (fun x => if x = 0 then some 12 else none) := by
  intro x h e
  dsimp only at e
  by_cases c : x = 0
  · subst c
    rw [if_pos rfl] at e
    cases e
    exact ⟨[], _, [], _, rfl, fun z hz => absurd hz List.not_mem_nil, rfl, by decide, rfl, cl31, ca31⟩
  · rw [if_neg c] at e; cases e
theorem mkL_sea : MdOkW mL_sea 3 := ⟨by decide, (TSg_at 1075 (by decide +kernel) rfl), (TSg_at 91 (by decide +kernel) rfl), by decide +kernel, ⟨by decide +kernel, by decide +kernel, by decide +kernel⟩, by decide⟩
theorem hnL_sea : Hnd mL_sea 4 (fun x => if x = 0 then some 12 else none) := by
  intro x h e
  dsimp only at e
  by_cases c : x = 0
  · subst c
    rw [if_pos rfl] at e
    cases e
    exact ⟨[], _, [], _, rfl, fun z hz => absurd hz List.not_mem_nil, rfl, by decide, rfl, cl31, ca31⟩
  · rw [if_neg c] at e; cases e
theorem mkL_season : MdOkW mL_season 6 := ⟨by decide, (TSg_at 1320 (by decide +kernel) rfl), (TSg_at 91 (by decide +kernel) rfl), by decide +kernel, ⟨by decide +kernel, by decide +kernel, by decide +kernel⟩, by decide⟩
theorem hnL_season : Hnd mL_season 9 (fun x => if x = 1 then some 17 else none) := by
  intro x h e
  dsimp only at e
  by_cases c : x = 1
  · subst c
    rw [if_pos rfl] at e
    cases e
    exact ⟨[], _, [], _, rfl, fun z hz => absurd hz List.not_mem_nil, rfl, by decide, rfl, cl13, ca13⟩
  · rw [if_neg c] at e; cases e
theorem mkL_share : MdOkW mL_share 5 := ⟨by decide, (TSg_at 1272 (by decide +kernel) rfl), (TSg_at 91 (by decide +kernel) rfl), by decide +kernel, ⟨by decide +kernel, by decide +kernel, by decide +kernel⟩, by decide⟩
theorem hnL_share : Hnd mL_share 7 (fun x => if x = 0 then some 15 else if x = 1 then some 19 else none) := by
  intro x h e
  dsimp only at e
  by_cases c : x = 0
  · subst c
    rw [if_pos rfl] at e
    cases e
    exact ⟨[], _, _, _, rfl, fun z hz => absurd hz List.not_mem_nil, rfl, by decide, rfl, cl31, ca31⟩
  · rw [if_neg c] at e
    by_cases c1 : x = 1
    · subst c1
      rw [if_pos rfl] at e
      cases e
      refine ⟨[_], _, [], _, rfl, fun z hz => ?_, rfl, by decide, rfl, cl13, ca13⟩
      rw [List.mem_singleton.mp hz]
      exact ⟨by decide, cl31, rfl⟩
    · rw [if_neg c1] at e; cases e
theorem mkL_span : MdOkW mL_span 7 := ⟨by decide, (TSg_at 1344 (by decide +kernel) rfl), (TSg_at 91 (by decide +kernel) rfl), by decide +kernel, ⟨by decide +kernel, by decide +kernel, by decide +kernel⟩, by decide⟩
theorem hnL_span : Hnd mL_span 11 (fun x => if x = 1 then some 19 else none) := by
  intro x h e
  dsimp only at e
  by_cases c : x = 1
  · subst c
    rw [if_pos rfl] at e
    cases e
    exact ⟨[], _, [], _, rfl, fun z hz => absurd hz List.not_mem_nil, rfl, by decide, rfl, cl13, ca13⟩
  · rw [if_neg c] at e; cases e
theorem mkL_squall : MdOkW mL_squall 5 := ⟨by decide, (TSg_at 1251 (by decide +kernel) rfl), (TSg_at 91 (by decide +kernel) rfl), by decide +kernel, ⟨by decide +kernel, by decide +kernel, by decide +kernel⟩, by decide⟩
theorem hnL_squall : Hnd mL_squall 7 (fun x => if x = 1 then some 14 else none) := by
  intro x h e
  dsimp only at e
  by_cases c : x = 1
  · subst c
    rw [if_pos rfl] at e
    cases e
    exact ⟨[], _, [], _, rfl, fun z hz => absurd hz List.not_mem_nil, rfl, by decide, rfl, cl13, ca13⟩
  · rw [if_neg c] at e; cases e
theorem mkL_suits : MdOkW mL_suits 6 := ⟨by decide, (TSg_at 1114 (by decide +kernel) rfl), (TSg_at 91 (by decide +kernel) rfl), by decide +kernel, ⟨by decide +kernel, by decide +kernel, by decide +kernel⟩, by decide⟩
theorem hnL_suits : Hnd mL_suits 9 (fun x => if x = 0 then some 17 else if x = 1 then some 21 else none) := by
  intro x h e
  dsimp only at e
  by_cases c : x = 0
  · subst c
    rw [if_pos rfl] at e
    cases e
    exact ⟨[], _, _, _, rfl, fun z hz => absurd hz List.not_mem_nil, rfl, by decide, rfl, cl31, ca31⟩
  · rw [if_neg c] at e
    by_cases c1 : x = 1
    · subst c1
      rw [if_pos rfl] at e
      cases e
      refine ⟨[_], _, [], _, rfl, fun z hz => ?_, rfl, by decide, rfl, cl13, ca13⟩
      rw [List.mem_singleton.mp hz]
      exact ⟨by decide, cl31, rfl⟩
    · rw [if_neg c1] at e; cases e
theorem mkL_told : MdOkW mL_told 3 := ⟨by decide, (TSg_at 1007 (by decide +kernel) rfl), (TSg_at 91 (by decide +kernel) rfl), by decide +kernel, ⟨by decide +kernel, by decide +kernel, by decide +kernel⟩, by decide⟩
theorem hnL_told : Hnd mL_told 4 (fun x => if x = 1 then some 12 else none) := by
  intro x h e
  dsimp only at e
  by_cases c : x = 1
  · subst c
    rw [if_pos rfl] at e
    cases e
    exact ⟨[], _, [], _, rfl, fun z hz => absurd hz List.not_mem_nil, rfl, by decide, rfl, cl13, ca13⟩
  · rw [if_neg c] at e; cases e
theorem mkL_two : MdOkW mL_two 5 := ⟨by decide, (TSg_at 1262 (by decide +kernel) rfl), (TSg_at 91 (by decide +kernel) rfl), by decide +kernel, ⟨by decide +kernel, by decide +kernel, by decide +kernel⟩, by decide⟩
theorem hnL_two : Hnd mL_two 7 (fun x => if x = 1 then some 15 else none) := by
  intro x h e
  dsimp only at e
  by_cases c : x = 1
  · subst c
    rw [if_pos rfl] at e
    cases e
    exact ⟨[], _, [], _, rfl, fun z hz => absurd hz List.not_mem_nil, rfl, by decide, rfl, cl13, ca13⟩
  · rw [if_neg c] at e; cases e
theorem mkL_work : MdOkW mL_work 3 := ⟨by decide, (TSg_at 847 (by decide +kernel) rfl), (TSg_at 91 (by decide +kernel) rfl), by decide +kernel, ⟨by decide +kernel, by decide +kernel, by decide +kernel⟩, by decide⟩
theorem hnL_work : Hnd mL_work 4 (fun x => if x = 1 then some 12 else none) := by
  intro x h e
  dsimp only at e
  by_cases c : x = 1
  · subst c
    rw [if_pos rfl] at e
    cases e
    exact ⟨[], _, [], _, rfl, fun z hz => absurd hz List.not_mem_nil, rfl, by decide, rfl, cl13, ca13⟩
  · rw [if_neg c] at e; cases e
theorem mkL_would : MdOkW mL_would 10 := ⟨by decide, (TSg_at 1083 (by decide +kernel) rfl), (TSg_at 91 (by decide +kernel) rfl), by decide +kernel, ⟨by decide +kernel, by decide +kernel, by decide +kernel⟩, by decide⟩
theorem hnL_would : Hnd mL_would 17 (fun x => if x = 1 then some 25 else none) := by
  intro x h e
  dsimp only at e
  by_cases c : x = 1
  · subst c
    rw [if_pos rfl] at e
    cases e
    exact ⟨[], _, [], _, rfl, fun z hz => absurd hz List.not_mem_nil, rfl, by decide, rfl, cl13, ca13⟩
  · rw [if_neg c] at e; cases e
theorem h_ahead {G : Gx} {d : Nat} {I : FI} {R : FR} {J : FJ} {Q : Po} {p1 p2 : Int32} {x : Tr} (hk : ∀ k, x.1 = .inr k → k = 1) (hc : ∀ Q', HC I R J Q' x → Cc G mX10_ahead (d + 900) 8 48 [rf G 0, .int p1, .int p2] 103 I R J Q') (hq : ∀ I' R' J', SC I' R' x.2 → FrCl I I' R R' → (∀ v, x.1 = .inl v → J' 102 0 = v.toInt64) → Q (.inl (some (.int (thC 1 x.1)))) 103 I' R' J') : Cc G mL_ahead (d + 901) 8 48 [rf G 0, .int p1, .int p2, rf G 102] 103 I R J Q := by
  show V _ _ _ _ _ _ _ _ [(0, rf G 0), (1, .int p1), (2, .int p2), (3, rf G 102)] [] _ _ _ _ _
  refine V_aload_n 1 3 rfl _ rfl rfl dL_ahead_0 rfl ?_
  refine V_iconst 2 (0) rfl dL_ahead_1 rfl ?_
  refine V_aload_n 3 0 rfl _ rfl rfl dL_ahead_2 rfl ?_
  refine V_iload_n 4 1 rfl rfl dL_ahead_3 rfl ?_
  refine V_iload_n 5 2 rfl rfl dL_ahead_4 rfl ?_
  refine V_callVc (hx := fun x => if x = 1 then some 13 else none) (K' := 8) (S' := 48) 8 0 10 2 [.int p1, .int p2] mkX10_ahead lkL_46 (by decide) rfl rfl (by decide) rfl (Nat.le_of_ble_eq_true rfl) (Nat.le_of_ble_eq_true rfl) (Nat.le_of_ble_eq_true rfl) (Nat.le_of_ble_eq_true rfl) hnL_ahead rfl dL_ahead_5 rfl (hc _ (fun I' R' hC' hF' => ?_))
  cases eo : x.1 with
  | inl v =>
    show V G mL_ahead (d + 900 + 1) 8 48 8 48 8 [(0, rf G 0), (1, .int p1), (2, .int p2), (3, rf G 102)] [.int v, .int 0, rf G 102] 103 I' R' J Q
    refine V_i2l 9 dL_ahead_8 rfl ?_
    refine V_last 10 102 1 (vp_in_nI (n := 0) (N := 1) (by decide) (by decide)) rfl (by decide) dL_ahead_9 rfl ?_
    refine V_goto 17 rfl dL_ahead_10 ?_
    refine V_iconst 18 (0) rfl dL_ahead_17 rfl ?_
    refine V_ret_i rfl rfl (Nat.le_of_ble_eq_true rfl) (fun h => absurd h (by decide)) (Nat.le_of_ble_eq_true rfl) (by have q := hq I' R' (upJ J 102 (0 : Int32).toNatClampNeg v.toInt64) hC' hF' (fun w e => by rw [eo] at e; cases e; rfl); rw [eo] at q; exact q) dL_ahead_18
  | inr k =>
    have hk1 := hk k eo
    subst hk1
    refine ⟨rfl, fun q => ?_⟩
    refine V_astore 15 q rfl [(4, .ref q), (0, rf G 0), (1, .int p1), (2, .int p2), (3, rf G 102)] (by decide) rfl dL_ahead_13 rfl ?_
    refine V_iconst 16 (1) rfl dL_ahead_15 rfl ?_
    exact V_ret_i rfl rfl (Nat.le_of_ble_eq_true rfl) (fun h => absurd h (by decide)) (Nat.le_of_ble_eq_true rfl) (by have q := hq I' R' J hC' hF' (fun w e => by rw [eo] at e; cases e); rw [eo] at q; exact q) dL_ahead_16
theorem h_best {G : Gx} {d : Nat} {I : FI} {R : FR} {J : FJ} {Q : Po} {p1 : Int32} {x : Tr} (hk : ∀ k, x.1 = .inr k → k = 1) (hc : ∀ Q', HC I R J Q' x → Cc G mX10_best (d + 900) 8 48 [rf G 0, .int p1] 103 I R J Q') (hq : ∀ I' R' J', SC I' R' x.2 → FrCl I I' R R' → (∀ v, x.1 = .inl v → J' 102 0 = v.toInt64) → Q (.inl (some (.int (thC 1 x.1)))) 103 I' R' J') : Cc G mL_best (d + 901) 8 48 [rf G 0, .int p1, rf G 102] 103 I R J Q := by
  show V _ _ _ _ _ _ _ _ [(0, rf G 0), (1, .int p1), (2, rf G 102)] [] _ _ _ _ _
  refine V_aload_n 1 2 rfl _ rfl rfl dL_best_0 rfl ?_
  refine V_iconst 2 (0) rfl dL_best_1 rfl ?_
  refine V_aload_n 3 0 rfl _ rfl rfl dL_best_2 rfl ?_
  refine V_iload_n 4 1 rfl rfl dL_best_3 rfl ?_
  refine V_callVc (hx := fun x => if x = 1 then some 12 else none) (K' := 8) (S' := 48) 7 0 10 1 [.int p1] mkX10_best lkL_88 (by decide) rfl rfl (by decide) rfl (Nat.le_of_ble_eq_true rfl) (Nat.le_of_ble_eq_true rfl) (Nat.le_of_ble_eq_true rfl) (Nat.le_of_ble_eq_true rfl) hnL_best rfl dL_best_4 rfl (hc _ (fun I' R' hC' hF' => ?_))
  cases eo : x.1 with
  | inl v =>
    show V G mL_best (d + 900 + 1) 8 48 8 48 7 [(0, rf G 0), (1, .int p1), (2, rf G 102)] [.int v, .int 0, rf G 102] 103 I' R' J Q
    refine V_i2l 8 dL_best_7 rfl ?_
    refine V_last 9 102 1 (vp_in_nI (n := 0) (N := 1) (by decide) (by decide)) rfl (by decide) dL_best_8 rfl ?_
    refine V_goto 15 rfl dL_best_9 ?_
    refine V_iconst 16 (0) rfl dL_best_15 rfl ?_
    refine V_ret_i rfl rfl (Nat.le_of_ble_eq_true rfl) (fun h => absurd h (by decide)) (Nat.le_of_ble_eq_true rfl) (by have q := hq I' R' (upJ J 102 (0 : Int32).toNatClampNeg v.toInt64) hC' hF' (fun w e => by rw [eo] at e; cases e; rfl); rw [eo] at q; exact q) dL_best_16
  | inr k =>
    have hk1 := hk k eo
    subst hk1
    refine ⟨rfl, fun q => ?_⟩
    refine V_astore_n 13 q rfl [(3, .ref q), (0, rf G 0), (1, .int p1), (2, rf G 102)] (by decide) rfl rfl dL_best_12 rfl ?_
    refine V_iconst 14 (1) rfl dL_best_13 rfl ?_
    exact V_ret_i rfl rfl (Nat.le_of_ble_eq_true rfl) (fun h => absurd h (by decide)) (Nat.le_of_ble_eq_true rfl) (by have q := hq I' R' J hC' hF' (fun w e => by rw [eo] at e; cases e); rw [eo] at q; exact q) dL_best_14
theorem h_book {G : Gx} {d : Nat} {I : FI} {R : FR} {J : FJ} {Q : Po} {p1 : Int32} {x : Tr} (hk : ∀ k, x.1 = .inr k → k = 1) (hc : ∀ Q', HC I R J Q' x → Cc G mX10_book (d + 900) 8 48 [rf G 0, .int p1] 103 I R J Q') (hq : ∀ I' R' J', SC I' R' x.2 → FrCl I I' R R' → (∀ v, x.1 = .inl v → J' 102 0 = v.toInt64) → Q (.inl (some (.int (thC 1 x.1)))) 103 I' R' J') : Cc G mL_book (d + 901) 8 48 [rf G 0, .int p1, rf G 102] 103 I R J Q := by
  show V _ _ _ _ _ _ _ _ [(0, rf G 0), (1, .int p1), (2, rf G 102)] [] _ _ _ _ _
  refine V_aload_n 1 2 rfl _ rfl rfl dL_book_0 rfl ?_
  refine V_iconst 2 (0) rfl dL_book_1 rfl ?_
  refine V_aload_n 3 0 rfl _ rfl rfl dL_book_2 rfl ?_
  refine V_iload_n 4 1 rfl rfl dL_book_3 rfl ?_
  refine V_callVc (hx := fun x => if x = 1 then some 12 else none) (K' := 8) (S' := 48) 7 0 10 1 [.int p1] mkX10_book lkL_21 (by decide) rfl rfl (by decide) rfl (Nat.le_of_ble_eq_true rfl) (Nat.le_of_ble_eq_true rfl) (Nat.le_of_ble_eq_true rfl) (Nat.le_of_ble_eq_true rfl) hnL_book rfl dL_book_4 rfl (hc _ (fun I' R' hC' hF' => ?_))
  cases eo : x.1 with
  | inl v =>
    show V G mL_book (d + 900 + 1) 8 48 8 48 7 [(0, rf G 0), (1, .int p1), (2, rf G 102)] [.int v, .int 0, rf G 102] 103 I' R' J Q
    refine V_i2l 8 dL_book_7 rfl ?_
    refine V_last 9 102 1 (vp_in_nI (n := 0) (N := 1) (by decide) (by decide)) rfl (by decide) dL_book_8 rfl ?_
    refine V_goto 15 rfl dL_book_9 ?_
    refine V_iconst 16 (0) rfl dL_book_15 rfl ?_
    refine V_ret_i rfl rfl (Nat.le_of_ble_eq_true rfl) (fun h => absurd h (by decide)) (Nat.le_of_ble_eq_true rfl) (by have q := hq I' R' (upJ J 102 (0 : Int32).toNatClampNeg v.toInt64) hC' hF' (fun w e => by rw [eo] at e; cases e; rfl); rw [eo] at q; exact q) dL_book_16
  | inr k =>
    have hk1 := hk k eo
    subst hk1
    refine ⟨rfl, fun q => ?_⟩
    refine V_astore_n 13 q rfl [(3, .ref q), (0, rf G 0), (1, .int p1), (2, rf G 102)] (by decide) rfl rfl dL_book_12 rfl ?_
    refine V_iconst 14 (1) rfl dL_book_13 rfl ?_
    exact V_ret_i rfl rfl (Nat.le_of_ble_eq_true rfl) (fun h => absurd h (by decide)) (Nat.le_of_ble_eq_true rfl) (by have q := hq I' R' J hC' hF' (fun w e => by rw [eo] at e; cases e); rw [eo] at q; exact q) dL_book_14
theorem h_coast {G : Gx} {d : Nat} {I : FI} {R : FR} {J : FJ} {Q : Po} {p1 : Int32} {x : Tr} (hk : ∀ k, x.1 = .inr k → k = 1) (hc : ∀ Q', HC I R J Q' x → Cc G mX10_coast (d + 900) 8 48 [rf G 0, .int p1] 103 I R J Q') (hq : ∀ I' R' J', SC I' R' x.2 → FrCl I I' R R' → (∀ v, x.1 = .inl v → J' 102 0 = v.toInt64) → Q (.inl (some (.int (thC 1 x.1)))) 103 I' R' J') : Cc G mL_coast (d + 901) 8 48 [rf G 0, .int p1, rf G 102] 103 I R J Q := by
  show V _ _ _ _ _ _ _ _ [(0, rf G 0), (1, .int p1), (2, rf G 102)] [] _ _ _ _ _
  refine V_aload_n 1 2 rfl _ rfl rfl dL_coast_0 rfl ?_
  refine V_iconst 2 (0) rfl dL_coast_1 rfl ?_
  refine V_aload_n 3 0 rfl _ rfl rfl dL_coast_2 rfl ?_
  refine V_iload_n 4 1 rfl rfl dL_coast_3 rfl ?_
  refine V_callVc (hx := fun x => if x = 1 then some 12 else none) (K' := 8) (S' := 48) 7 0 10 1 [.int p1] mkX10_coast lkL_7 (by decide) rfl rfl (by decide) rfl (Nat.le_of_ble_eq_true rfl) (Nat.le_of_ble_eq_true rfl) (Nat.le_of_ble_eq_true rfl) (Nat.le_of_ble_eq_true rfl) hnL_coast rfl dL_coast_4 rfl (hc _ (fun I' R' hC' hF' => ?_))
  cases eo : x.1 with
  | inl v =>
    show V G mL_coast (d + 900 + 1) 8 48 8 48 7 [(0, rf G 0), (1, .int p1), (2, rf G 102)] [.int v, .int 0, rf G 102] 103 I' R' J Q
    refine V_i2l 8 dL_coast_7 rfl ?_
    refine V_last 9 102 1 (vp_in_nI (n := 0) (N := 1) (by decide) (by decide)) rfl (by decide) dL_coast_8 rfl ?_
    refine V_goto 15 rfl dL_coast_9 ?_
    refine V_iconst 16 (0) rfl dL_coast_15 rfl ?_
    refine V_ret_i rfl rfl (Nat.le_of_ble_eq_true rfl) (fun h => absurd h (by decide)) (Nat.le_of_ble_eq_true rfl) (by have q := hq I' R' (upJ J 102 (0 : Int32).toNatClampNeg v.toInt64) hC' hF' (fun w e => by rw [eo] at e; cases e; rfl); rw [eo] at q; exact q) dL_coast_16
  | inr k =>
    have hk1 := hk k eo
    subst hk1
    refine ⟨rfl, fun q => ?_⟩
    refine V_astore_n 13 q rfl [(3, .ref q), (0, rf G 0), (1, .int p1), (2, rf G 102)] (by decide) rfl rfl dL_coast_12 rfl ?_
    refine V_iconst 14 (1) rfl dL_coast_13 rfl ?_
    exact V_ret_i rfl rfl (Nat.le_of_ble_eq_true rfl) (fun h => absurd h (by decide)) (Nat.le_of_ble_eq_true rfl) (by have q := hq I' R' J hC' hF' (fun w e => by rw [eo] at e; cases e); rw [eo] at q; exact q) dL_coast_14
theorem h_doom {G : Gx} {d : Nat} {I : FI} {R : FR} {J : FJ} {Q : Po} {p1 : Int32} {x : Tr} (hk : ∀ k, x.1 = .inr k → k = 0) (hc : ∀ Q', HC I R J Q' x → Cc G mX10_doom (d + 900) 8 48 [rf G 0, .int p1] 103 I R J Q') (hq : ∀ I' R' J', SC I' R' x.2 → FrCl I I' R R' → (∀ v, x.1 = .inl v → J' 102 0 = v.toInt64) → Q (.inl (some (.int (thC 1 x.1)))) 103 I' R' J') : Cc G mL_doom (d + 901) 8 48 [rf G 0, .int p1, rf G 102] 103 I R J Q := by
  show V _ _ _ _ _ _ _ _ [(0, rf G 0), (1, .int p1), (2, rf G 102)] [] _ _ _ _ _
  refine V_aload_n 1 2 rfl _ rfl rfl dL_doom_0 rfl ?_
  refine V_iconst 2 (0) rfl dL_doom_1 rfl ?_
  refine V_aload_n 3 0 rfl _ rfl rfl dL_doom_2 rfl ?_
  refine V_iload_n 4 1 rfl rfl dL_doom_3 rfl ?_
  refine V_callVc (hx := fun x => if x = 0 then some 12 else none) (K' := 8) (S' := 48) 7 0 10 1 [.int p1] mkX10_doom lkL_49 (by decide) rfl rfl (by decide) rfl (Nat.le_of_ble_eq_true rfl) (Nat.le_of_ble_eq_true rfl) (Nat.le_of_ble_eq_true rfl) (Nat.le_of_ble_eq_true rfl) hnL_doom rfl dL_doom_4 rfl (hc _ (fun I' R' hC' hF' => ?_))
  cases eo : x.1 with
  | inl v =>
    show V G mL_doom (d + 900 + 1) 8 48 8 48 7 [(0, rf G 0), (1, .int p1), (2, rf G 102)] [.int v, .int 0, rf G 102] 103 I' R' J Q
    refine V_i2l 8 dL_doom_7 rfl ?_
    refine V_last 9 102 1 (vp_in_nI (n := 0) (N := 1) (by decide) (by decide)) rfl (by decide) dL_doom_8 rfl ?_
    refine V_goto 15 rfl dL_doom_9 ?_
    refine V_iconst 16 (0) rfl dL_doom_15 rfl ?_
    refine V_ret_i rfl rfl (Nat.le_of_ble_eq_true rfl) (fun h => absurd h (by decide)) (Nat.le_of_ble_eq_true rfl) (by have q := hq I' R' (upJ J 102 (0 : Int32).toNatClampNeg v.toInt64) hC' hF' (fun w e => by rw [eo] at e; cases e; rfl); rw [eo] at q; exact q) dL_doom_16
  | inr k =>
    have hk1 := hk k eo
    subst hk1
    refine ⟨rfl, fun q => ?_⟩
    refine V_astore_n 13 q rfl [(3, .ref q), (0, rf G 0), (1, .int p1), (2, rf G 102)] (by decide) rfl rfl dL_doom_12 rfl ?_
    refine V_iconst 14 (1) rfl dL_doom_13 rfl ?_
    exact V_ret_i rfl rfl (Nat.le_of_ble_eq_true rfl) (fun h => absurd h (by decide)) (Nat.le_of_ble_eq_true rfl) (by have q := hq I' R' J hC' hF' (fun w e => by rw [eo] at e; cases e); rw [eo] at q; exact q) dL_doom_14
theorem h_fits {G : Gx} {d : Nat} {I : FI} {R : FR} {J : FJ} {Q : Po} {p1 p2 : Int32} {x : Tr} (hk : ∀ k, x.1 = .inr k → k < 2) (hc : ∀ Q', HC I R J Q' x → Cc G mX10_fits (d + 900) 8 48 [rf G 0, .int p1, .int p2] 103 I R J Q') (hq : ∀ I' R' J', SC I' R' x.2 → FrCl I I' R R' → (∀ v, x.1 = .inl v → J' 102 0 = v.toInt64) → Q (.inl (some (.int (thC 2 x.1)))) 103 I' R' J') : Cc G mL_fits (d + 901) 8 48 [rf G 0, .int p1, .int p2, rf G 102] 103 I R J Q := by
  show V _ _ _ _ _ _ _ _ [(0, rf G 0), (1, .int p1), (2, .int p2), (3, rf G 102)] [] _ _ _ _ _
  refine V_aload_n 1 3 rfl _ rfl rfl dL_fits_0 rfl ?_
  refine V_iconst 2 (0) rfl dL_fits_1 rfl ?_
  refine V_aload_n 3 0 rfl _ rfl rfl dL_fits_2 rfl ?_
  refine V_iload_n 4 1 rfl rfl dL_fits_3 rfl ?_
  refine V_iload_n 5 2 rfl rfl dL_fits_4 rfl ?_
  refine V_callVc (hx := fun x => if x = 0 then some 13 else if x = 1 then some 17 else none) (K' := 8) (S' := 48) 8 0 10 2 [.int p1, .int p2] mkX10_fits lkL_69 (by decide) rfl rfl (by decide) rfl (Nat.le_of_ble_eq_true rfl) (Nat.le_of_ble_eq_true rfl) (Nat.le_of_ble_eq_true rfl) (Nat.le_of_ble_eq_true rfl) hnL_fits rfl dL_fits_5 rfl (hc _ (fun I' R' hC' hF' => ?_))
  cases eo : x.1 with
  | inl v =>
    show V G mL_fits (d + 900 + 1) 8 48 8 48 8 [(0, rf G 0), (1, .int p1), (2, .int p2), (3, rf G 102)] [.int v, .int 0, rf G 102] 103 I' R' J Q
    refine V_i2l 9 dL_fits_8 rfl ?_
    refine V_last 10 102 1 (vp_in_nI (n := 0) (N := 1) (by decide) (by decide)) rfl (by decide) dL_fits_9 rfl ?_
    refine V_goto 21 rfl dL_fits_10 ?_
    refine V_iconst 22 (0) rfl dL_fits_21 rfl ?_
    refine V_ret_i rfl rfl (Nat.le_of_ble_eq_true rfl) (fun h => absurd h (by decide)) (Nat.le_of_ble_eq_true rfl) (by have q := hq I' R' (upJ J 102 (0 : Int32).toNatClampNeg v.toInt64) hC' hF' (fun w e => by rw [eo] at e; cases e; rfl); rw [eo] at q; exact q) dL_fits_22
  | inr k =>
    have hk1 := hk k eo
    rcases (show k = 0 ∨ k = 1 by omega) with rfl | rfl
    · refine ⟨rfl, fun q => ?_⟩
      refine V_astore 15 q rfl [(4, .ref q), (0, rf G 0), (1, .int p1), (2, .int p2), (3, rf G 102)] (by decide) rfl dL_fits_13 rfl ?_
      refine V_iconst 16 (1) rfl dL_fits_15 rfl ?_
      exact V_ret_i rfl rfl (Nat.le_of_ble_eq_true rfl) (fun h => absurd h (by decide)) (Nat.le_of_ble_eq_true rfl) (by have q := hq I' R' J hC' hF' (fun w e => by rw [eo] at e; cases e); rw [eo] at q; exact q) dL_fits_16
    · refine ⟨rfl, fun q => ?_⟩
      refine V_astore 19 q rfl [(4, .ref q), (0, rf G 0), (1, .int p1), (2, .int p2), (3, rf G 102)] (by decide) rfl dL_fits_17 rfl ?_
      refine V_iconst 20 (2) rfl dL_fits_19 rfl ?_
      exact V_ret_i rfl rfl (Nat.le_of_ble_eq_true rfl) (fun h => absurd h (by decide)) (Nat.le_of_ble_eq_true rfl) (by have q := hq I' R' J hC' hF' (fun w e => by rw [eo] at e; cases e); rw [eo] at q; exact q) dL_fits_20
theorem h_fleet {G : Gx} {d : Nat} {I : FI} {R : FR} {J : FJ} {Q : Po} {p1 p2 : Int32} {x : Tr} (hk : ∀ k, x.1 = .inr k → k < 2) (hc : ∀ Q', HC I R J Q' x → Cc G mX10_fleet (d + 900) 8 48 [rf G 0, .int p1, .int p2] 103 I R J Q') (hq : ∀ I' R' J', SC I' R' x.2 → FrCl I I' R R' → (∀ v, x.1 = .inl v → J' 102 0 = v.toInt64) → Q (.inl (some (.int (thC 2 x.1)))) 103 I' R' J') : Cc G mL_fleet (d + 901) 8 48 [rf G 0, .int p1, .int p2, rf G 102] 103 I R J Q := by
  show V _ _ _ _ _ _ _ _ [(0, rf G 0), (1, .int p1), (2, .int p2), (3, rf G 102)] [] _ _ _ _ _
  refine V_aload_n 1 3 rfl _ rfl rfl dL_fleet_0 rfl ?_
  refine V_iconst 2 (0) rfl dL_fleet_1 rfl ?_
  refine V_aload_n 3 0 rfl _ rfl rfl dL_fleet_2 rfl ?_
  refine V_iload_n 4 1 rfl rfl dL_fleet_3 rfl ?_
  refine V_iload_n 5 2 rfl rfl dL_fleet_4 rfl ?_
  refine V_callVc (hx := fun x => if x = 0 then some 13 else if x = 1 then some 17 else none) (K' := 8) (S' := 48) 8 0 10 2 [.int p1, .int p2] mkX10_fleet lkL_75 (by decide) rfl rfl (by decide) rfl (Nat.le_of_ble_eq_true rfl) (Nat.le_of_ble_eq_true rfl) (Nat.le_of_ble_eq_true rfl) (Nat.le_of_ble_eq_true rfl) hnL_fleet rfl dL_fleet_5 rfl (hc _ (fun I' R' hC' hF' => ?_))
  cases eo : x.1 with
  | inl v =>
    show V G mL_fleet (d + 900 + 1) 8 48 8 48 8 [(0, rf G 0), (1, .int p1), (2, .int p2), (3, rf G 102)] [.int v, .int 0, rf G 102] 103 I' R' J Q
    refine V_i2l 9 dL_fleet_8 rfl ?_
    refine V_last 10 102 1 (vp_in_nI (n := 0) (N := 1) (by decide) (by decide)) rfl (by decide) dL_fleet_9 rfl ?_
    refine V_goto 21 rfl dL_fleet_10 ?_
    refine V_iconst 22 (0) rfl dL_fleet_21 rfl ?_
    refine V_ret_i rfl rfl (Nat.le_of_ble_eq_true rfl) (fun h => absurd h (by decide)) (Nat.le_of_ble_eq_true rfl) (by have q := hq I' R' (upJ J 102 (0 : Int32).toNatClampNeg v.toInt64) hC' hF' (fun w e => by rw [eo] at e; cases e; rfl); rw [eo] at q; exact q) dL_fleet_22
  | inr k =>
    have hk1 := hk k eo
    rcases (show k = 0 ∨ k = 1 by omega) with rfl | rfl
    · refine ⟨rfl, fun q => ?_⟩
      refine V_astore 15 q rfl [(4, .ref q), (0, rf G 0), (1, .int p1), (2, .int p2), (3, rf G 102)] (by decide) rfl dL_fleet_13 rfl ?_
      refine V_iconst 16 (1) rfl dL_fleet_15 rfl ?_
      exact V_ret_i rfl rfl (Nat.le_of_ble_eq_true rfl) (fun h => absurd h (by decide)) (Nat.le_of_ble_eq_true rfl) (by have q := hq I' R' J hC' hF' (fun w e => by rw [eo] at e; cases e); rw [eo] at q; exact q) dL_fleet_16
    · refine ⟨rfl, fun q => ?_⟩
      refine V_astore 19 q rfl [(4, .ref q), (0, rf G 0), (1, .int p1), (2, .int p2), (3, rf G 102)] (by decide) rfl dL_fleet_17 rfl ?_
      refine V_iconst 20 (2) rfl dL_fleet_19 rfl ?_
      exact V_ret_i rfl rfl (Nat.le_of_ble_eq_true rfl) (fun h => absurd h (by decide)) (Nat.le_of_ble_eq_true rfl) (by have q := hq I' R' J hC' hF' (fun w e => by rw [eo] at e; cases e); rw [eo] at q; exact q) dL_fleet_20
theorem h_from {G : Gx} {d : Nat} {I : FI} {R : FR} {J : FJ} {Q : Po} {p1 : Int32} {x : Tr} (hk : ∀ k, x.1 = .inr k → k = 1) (hc : ∀ Q', HC I R J Q' x → Cc G mX10_from (d + 900) 8 48 [rf G 0, .int p1] 103 I R J Q') (hq : ∀ I' R' J', SC I' R' x.2 → FrCl I I' R R' → (∀ v, x.1 = .inl v → J' 102 0 = v.toInt64) → Q (.inl (some (.int (thC 1 x.1)))) 103 I' R' J') : Cc G mL_from (d + 901) 8 48 [rf G 0, .int p1, rf G 102] 103 I R J Q := by
  show V _ _ _ _ _ _ _ _ [(0, rf G 0), (1, .int p1), (2, rf G 102)] [] _ _ _ _ _
  refine V_aload_n 1 2 rfl _ rfl rfl dL_from_0 rfl ?_
  refine V_iconst 2 (0) rfl dL_from_1 rfl ?_
  refine V_aload_n 3 0 rfl _ rfl rfl dL_from_2 rfl ?_
  refine V_iload_n 4 1 rfl rfl dL_from_3 rfl ?_
  refine V_callVc (hx := fun x => if x = 1 then some 12 else none) (K' := 8) (S' := 48) 7 0 10 1 [.int p1] mkX10_from lkL_91 (by decide) rfl rfl (by decide) rfl (Nat.le_of_ble_eq_true rfl) (Nat.le_of_ble_eq_true rfl) (Nat.le_of_ble_eq_true rfl) (Nat.le_of_ble_eq_true rfl) hnL_from rfl dL_from_4 rfl (hc _ (fun I' R' hC' hF' => ?_))
  cases eo : x.1 with
  | inl v =>
    show V G mL_from (d + 900 + 1) 8 48 8 48 7 [(0, rf G 0), (1, .int p1), (2, rf G 102)] [.int v, .int 0, rf G 102] 103 I' R' J Q
    refine V_i2l 8 dL_from_7 rfl ?_
    refine V_last 9 102 1 (vp_in_nI (n := 0) (N := 1) (by decide) (by decide)) rfl (by decide) dL_from_8 rfl ?_
    refine V_goto 15 rfl dL_from_9 ?_
    refine V_iconst 16 (0) rfl dL_from_15 rfl ?_
    refine V_ret_i rfl rfl (Nat.le_of_ble_eq_true rfl) (fun h => absurd h (by decide)) (Nat.le_of_ble_eq_true rfl) (by have q := hq I' R' (upJ J 102 (0 : Int32).toNatClampNeg v.toInt64) hC' hF' (fun w e => by rw [eo] at e; cases e; rfl); rw [eo] at q; exact q) dL_from_16
  | inr k =>
    have hk1 := hk k eo
    subst hk1
    refine ⟨rfl, fun q => ?_⟩
    refine V_astore_n 13 q rfl [(3, .ref q), (0, rf G 0), (1, .int p1), (2, rf G 102)] (by decide) rfl rfl dL_from_12 rfl ?_
    refine V_iconst 14 (1) rfl dL_from_13 rfl ?_
    exact V_ret_i rfl rfl (Nat.le_of_ble_eq_true rfl) (fun h => absurd h (by decide)) (Nat.le_of_ble_eq_true rfl) (by have q := hq I' R' J hC' hF' (fun w e => by rw [eo] at e; cases e); rw [eo] at q; exact q) dL_from_14
theorem h_given {G : Gx} {d : Nat} {I : FI} {R : FR} {J : FJ} {Q : Po} {p1 p2 : Int32} {x : Tr} (hk : ∀ k, x.1 = .inr k → k = 0) (hc : ∀ Q', HC I R J Q' x → Cc G mX10_given (d + 900) 8 48 [rf G 0, .int p1, .int p2] 103 I R J Q') (hq : ∀ I' R' J', SC I' R' x.2 → FrCl I I' R R' → (∀ v, x.1 = .inl v → J' 102 0 = v.toInt64) → Q (.inl (some (.int (thC 1 x.1)))) 103 I' R' J') : Cc G mL_given (d + 901) 8 48 [rf G 0, .int p1, .int p2, rf G 102] 103 I R J Q := by
  show V _ _ _ _ _ _ _ _ [(0, rf G 0), (1, .int p1), (2, .int p2), (3, rf G 102)] [] _ _ _ _ _
  refine V_aload_n 1 3 rfl _ rfl rfl dL_given_0 rfl ?_
  refine V_iconst 2 (0) rfl dL_given_1 rfl ?_
  refine V_aload_n 3 0 rfl _ rfl rfl dL_given_2 rfl ?_
  refine V_iload_n 4 1 rfl rfl dL_given_3 rfl ?_
  refine V_iload_n 5 2 rfl rfl dL_given_4 rfl ?_
  refine V_callVc (hx := fun x => if x = 0 then some 13 else none) (K' := 8) (S' := 48) 8 0 10 2 [.int p1, .int p2] mkX10_given lkL_59 (by decide) rfl rfl (by decide) rfl (Nat.le_of_ble_eq_true rfl) (Nat.le_of_ble_eq_true rfl) (Nat.le_of_ble_eq_true rfl) (Nat.le_of_ble_eq_true rfl) hnL_given rfl dL_given_5 rfl (hc _ (fun I' R' hC' hF' => ?_))
  cases eo : x.1 with
  | inl v =>
    show V G mL_given (d + 900 + 1) 8 48 8 48 8 [(0, rf G 0), (1, .int p1), (2, .int p2), (3, rf G 102)] [.int v, .int 0, rf G 102] 103 I' R' J Q
    refine V_i2l 9 dL_given_8 rfl ?_
    refine V_last 10 102 1 (vp_in_nI (n := 0) (N := 1) (by decide) (by decide)) rfl (by decide) dL_given_9 rfl ?_
    refine V_goto 17 rfl dL_given_10 ?_
    refine V_iconst 18 (0) rfl dL_given_17 rfl ?_
    refine V_ret_i rfl rfl (Nat.le_of_ble_eq_true rfl) (fun h => absurd h (by decide)) (Nat.le_of_ble_eq_true rfl) (by have q := hq I' R' (upJ J 102 (0 : Int32).toNatClampNeg v.toInt64) hC' hF' (fun w e => by rw [eo] at e; cases e; rfl); rw [eo] at q; exact q) dL_given_18
  | inr k =>
    have hk1 := hk k eo
    subst hk1
    refine ⟨rfl, fun q => ?_⟩
    refine V_astore 15 q rfl [(4, .ref q), (0, rf G 0), (1, .int p1), (2, .int p2), (3, rf G 102)] (by decide) rfl dL_given_13 rfl ?_
    refine V_iconst 16 (1) rfl dL_given_15 rfl ?_
    exact V_ret_i rfl rfl (Nat.le_of_ble_eq_true rfl) (fun h => absurd h (by decide)) (Nat.le_of_ble_eq_true rfl) (by have q := hq I' R' J hC' hF' (fun w e => by rw [eo] at e; cases e); rw [eo] at q; exact q) dL_given_16
theorem h_ground {G : Gx} {d : Nat} {I : FI} {R : FR} {J : FJ} {Q : Po} {p1 p2 : Int32} {x : Tr} (hk : ∀ k, x.1 = .inr k → k < 2) (hc : ∀ Q', HC I R J Q' x → Cc G mX10_ground (d + 900) 8 48 [rf G 0, .int p1, .int p2] 103 I R J Q') (hq : ∀ I' R' J', SC I' R' x.2 → FrCl I I' R R' → (∀ v, x.1 = .inl v → J' 102 0 = v.toInt64) → Q (.inl (some (.int (thC 2 x.1)))) 103 I' R' J') : Cc G mL_ground (d + 901) 8 48 [rf G 0, .int p1, .int p2, rf G 102] 103 I R J Q := by
  show V _ _ _ _ _ _ _ _ [(0, rf G 0), (1, .int p1), (2, .int p2), (3, rf G 102)] [] _ _ _ _ _
  refine V_aload_n 1 3 rfl _ rfl rfl dL_ground_0 rfl ?_
  refine V_iconst 2 (0) rfl dL_ground_1 rfl ?_
  refine V_aload_n 3 0 rfl _ rfl rfl dL_ground_2 rfl ?_
  refine V_iload_n 4 1 rfl rfl dL_ground_3 rfl ?_
  refine V_iload_n 5 2 rfl rfl dL_ground_4 rfl ?_
  refine V_callVc (hx := fun x => if x = 0 then some 13 else if x = 1 then some 17 else none) (K' := 8) (S' := 48) 8 0 10 2 [.int p1, .int p2] mkX10_ground lkL_33 (by decide) rfl rfl (by decide) rfl (Nat.le_of_ble_eq_true rfl) (Nat.le_of_ble_eq_true rfl) (Nat.le_of_ble_eq_true rfl) (Nat.le_of_ble_eq_true rfl) hnL_ground rfl dL_ground_5 rfl (hc _ (fun I' R' hC' hF' => ?_))
  cases eo : x.1 with
  | inl v =>
    show V G mL_ground (d + 900 + 1) 8 48 8 48 8 [(0, rf G 0), (1, .int p1), (2, .int p2), (3, rf G 102)] [.int v, .int 0, rf G 102] 103 I' R' J Q
    refine V_i2l 9 dL_ground_8 rfl ?_
    refine V_last 10 102 1 (vp_in_nI (n := 0) (N := 1) (by decide) (by decide)) rfl (by decide) dL_ground_9 rfl ?_
    refine V_goto 21 rfl dL_ground_10 ?_
    refine V_iconst 22 (0) rfl dL_ground_21 rfl ?_
    refine V_ret_i rfl rfl (Nat.le_of_ble_eq_true rfl) (fun h => absurd h (by decide)) (Nat.le_of_ble_eq_true rfl) (by have q := hq I' R' (upJ J 102 (0 : Int32).toNatClampNeg v.toInt64) hC' hF' (fun w e => by rw [eo] at e; cases e; rfl); rw [eo] at q; exact q) dL_ground_22
  | inr k =>
    have hk1 := hk k eo
    rcases (show k = 0 ∨ k = 1 by omega) with rfl | rfl
    · refine ⟨rfl, fun q => ?_⟩
      refine V_astore 15 q rfl [(4, .ref q), (0, rf G 0), (1, .int p1), (2, .int p2), (3, rf G 102)] (by decide) rfl dL_ground_13 rfl ?_
      refine V_iconst 16 (1) rfl dL_ground_15 rfl ?_
      exact V_ret_i rfl rfl (Nat.le_of_ble_eq_true rfl) (fun h => absurd h (by decide)) (Nat.le_of_ble_eq_true rfl) (by have q := hq I' R' J hC' hF' (fun w e => by rw [eo] at e; cases e); rw [eo] at q; exact q) dL_ground_16
    · refine ⟨rfl, fun q => ?_⟩
      refine V_astore 19 q rfl [(4, .ref q), (0, rf G 0), (1, .int p1), (2, .int p2), (3, rf G 102)] (by decide) rfl dL_ground_17 rfl ?_
      refine V_iconst 20 (2) rfl dL_ground_19 rfl ?_
      exact V_ret_i rfl rfl (Nat.le_of_ble_eq_true rfl) (fun h => absurd h (by decide)) (Nat.le_of_ble_eq_true rfl) (by have q := hq I' R' J hC' hF' (fun w e => by rw [eo] at e; cases e); rw [eo] at q; exact q) dL_ground_20
theorem h_hat {G : Gx} {d : Nat} {I : FI} {R : FR} {J : FJ} {Q : Po} {p1 p2 : Int32} {x : Tr} (hk : ∀ k, x.1 = .inr k → k < 2) (hc : ∀ Q', HC I R J Q' x → Cc G mX10_hat (d + 900) 8 48 [rf G 0, .int p1, .int p2] 103 I R J Q') (hq : ∀ I' R' J', SC I' R' x.2 → FrCl I I' R R' → (∀ v, x.1 = .inl v → J' 102 0 = v.toInt64) → Q (.inl (some (.int (thC 2 x.1)))) 103 I' R' J') : Cc G mL_hat (d + 901) 8 48 [rf G 0, .int p1, .int p2, rf G 102] 103 I R J Q := by
  show V _ _ _ _ _ _ _ _ [(0, rf G 0), (1, .int p1), (2, .int p2), (3, rf G 102)] [] _ _ _ _ _
  refine V_aload_n 1 3 rfl _ rfl rfl dL_hat_0 rfl ?_
  refine V_iconst 2 (0) rfl dL_hat_1 rfl ?_
  refine V_aload_n 3 0 rfl _ rfl rfl dL_hat_2 rfl ?_
  refine V_iload_n 4 1 rfl rfl dL_hat_3 rfl ?_
  refine V_iload_n 5 2 rfl rfl dL_hat_4 rfl ?_
  refine V_callVc (hx := fun x => if x = 0 then some 13 else if x = 1 then some 17 else none) (K' := 8) (S' := 48) 8 0 10 2 [.int p1, .int p2] mkX10_hat lkL_27 (by decide) rfl rfl (by decide) rfl (Nat.le_of_ble_eq_true rfl) (Nat.le_of_ble_eq_true rfl) (Nat.le_of_ble_eq_true rfl) (Nat.le_of_ble_eq_true rfl) hnL_hat rfl dL_hat_5 rfl (hc _ (fun I' R' hC' hF' => ?_))
  cases eo : x.1 with
  | inl v =>
    show V G mL_hat (d + 900 + 1) 8 48 8 48 8 [(0, rf G 0), (1, .int p1), (2, .int p2), (3, rf G 102)] [.int v, .int 0, rf G 102] 103 I' R' J Q
    refine V_i2l 9 dL_hat_8 rfl ?_
    refine V_last 10 102 1 (vp_in_nI (n := 0) (N := 1) (by decide) (by decide)) rfl (by decide) dL_hat_9 rfl ?_
    refine V_goto 21 rfl dL_hat_10 ?_
    refine V_iconst 22 (0) rfl dL_hat_21 rfl ?_
    refine V_ret_i rfl rfl (Nat.le_of_ble_eq_true rfl) (fun h => absurd h (by decide)) (Nat.le_of_ble_eq_true rfl) (by have q := hq I' R' (upJ J 102 (0 : Int32).toNatClampNeg v.toInt64) hC' hF' (fun w e => by rw [eo] at e; cases e; rfl); rw [eo] at q; exact q) dL_hat_22
  | inr k =>
    have hk1 := hk k eo
    rcases (show k = 0 ∨ k = 1 by omega) with rfl | rfl
    · refine ⟨rfl, fun q => ?_⟩
      refine V_astore 15 q rfl [(4, .ref q), (0, rf G 0), (1, .int p1), (2, .int p2), (3, rf G 102)] (by decide) rfl dL_hat_13 rfl ?_
      refine V_iconst 16 (1) rfl dL_hat_15 rfl ?_
      exact V_ret_i rfl rfl (Nat.le_of_ble_eq_true rfl) (fun h => absurd h (by decide)) (Nat.le_of_ble_eq_true rfl) (by have q := hq I' R' J hC' hF' (fun w e => by rw [eo] at e; cases e); rw [eo] at q; exact q) dL_hat_16
    · refine ⟨rfl, fun q => ?_⟩
      refine V_astore 19 q rfl [(4, .ref q), (0, rf G 0), (1, .int p1), (2, .int p2), (3, rf G 102)] (by decide) rfl dL_hat_17 rfl ?_
      refine V_iconst 20 (2) rfl dL_hat_19 rfl ?_
      exact V_ret_i rfl rfl (Nat.le_of_ble_eq_true rfl) (fun h => absurd h (by decide)) (Nat.le_of_ble_eq_true rfl) (by have q := hq I' R' J hC' hF' (fun w e => by rw [eo] at e; cases e); rw [eo] at q; exact q) dL_hat_20
theorem h_hatted {G : Gx} {d : Nat} {I : FI} {R : FR} {J : FJ} {Q : Po} {p1 : Int32} {x : Tr} (hk : ∀ k, x.1 = .inr k → k = 0) (hc : ∀ Q', HC I R J Q' x → Cc G mX10_hatted (d + 900) 8 48 [rf G 0, .int p1] 103 I R J Q') (hq : ∀ I' R' J', SC I' R' x.2 → FrCl I I' R R' → (∀ v, x.1 = .inl v → J' 102 0 = v.toInt64) → Q (.inl (some (.int (thC 1 x.1)))) 103 I' R' J') : Cc G mL_hatted (d + 901) 8 48 [rf G 0, .int p1, rf G 102] 103 I R J Q := by
  show V _ _ _ _ _ _ _ _ [(0, rf G 0), (1, .int p1), (2, rf G 102)] [] _ _ _ _ _
  refine V_aload_n 1 2 rfl _ rfl rfl dL_hatted_0 rfl ?_
  refine V_iconst 2 (0) rfl dL_hatted_1 rfl ?_
  refine V_aload_n 3 0 rfl _ rfl rfl dL_hatted_2 rfl ?_
  refine V_iload_n 4 1 rfl rfl dL_hatted_3 rfl ?_
  refine V_callVc (hx := fun x => if x = 0 then some 12 else none) (K' := 8) (S' := 48) 7 0 10 1 [.int p1] mkX10_hatted lkL_56 (by decide) rfl rfl (by decide) rfl (Nat.le_of_ble_eq_true rfl) (Nat.le_of_ble_eq_true rfl) (Nat.le_of_ble_eq_true rfl) (Nat.le_of_ble_eq_true rfl) hnL_hatted rfl dL_hatted_4 rfl (hc _ (fun I' R' hC' hF' => ?_))
  cases eo : x.1 with
  | inl v =>
    show V G mL_hatted (d + 900 + 1) 8 48 8 48 7 [(0, rf G 0), (1, .int p1), (2, rf G 102)] [.int v, .int 0, rf G 102] 103 I' R' J Q
    refine V_i2l 8 dL_hatted_7 rfl ?_
    refine V_last 9 102 1 (vp_in_nI (n := 0) (N := 1) (by decide) (by decide)) rfl (by decide) dL_hatted_8 rfl ?_
    refine V_goto 15 rfl dL_hatted_9 ?_
    refine V_iconst 16 (0) rfl dL_hatted_15 rfl ?_
    refine V_ret_i rfl rfl (Nat.le_of_ble_eq_true rfl) (fun h => absurd h (by decide)) (Nat.le_of_ble_eq_true rfl) (by have q := hq I' R' (upJ J 102 (0 : Int32).toNatClampNeg v.toInt64) hC' hF' (fun w e => by rw [eo] at e; cases e; rfl); rw [eo] at q; exact q) dL_hatted_16
  | inr k =>
    have hk1 := hk k eo
    subst hk1
    refine ⟨rfl, fun q => ?_⟩
    refine V_astore_n 13 q rfl [(3, .ref q), (0, rf G 0), (1, .int p1), (2, rf G 102)] (by decide) rfl rfl dL_hatted_12 rfl ?_
    refine V_iconst 14 (1) rfl dL_hatted_13 rfl ?_
    exact V_ret_i rfl rfl (Nat.le_of_ble_eq_true rfl) (fun h => absurd h (by decide)) (Nat.le_of_ble_eq_true rfl) (by have q := hq I' R' J hC' hF' (fun w e => by rw [eo] at e; cases e); rw [eo] at q; exact q) dL_hatted_14
theorem h_law {G : Gx} {d : Nat} {I : FI} {R : FR} {J : FJ} {Q : Po} {p1 : Int32} {x : Tr} (hk : ∀ k, x.1 = .inr k → k = 1) (hc : ∀ Q', HC I R J Q' x → Cc G mX10_law (d + 900) 8 48 [rf G 0, .int p1] 103 I R J Q') (hq : ∀ I' R' J', SC I' R' x.2 → FrCl I I' R R' → (∀ v, x.1 = .inl v → J' 102 0 = v.toInt64) → Q (.inl (some (.int (thC 1 x.1)))) 103 I' R' J') : Cc G mL_law (d + 901) 8 48 [rf G 0, .int p1, rf G 102] 103 I R J Q := by
  show V _ _ _ _ _ _ _ _ [(0, rf G 0), (1, .int p1), (2, rf G 102)] [] _ _ _ _ _
  refine V_aload_n 1 2 rfl _ rfl rfl dL_law_0 rfl ?_
  refine V_iconst 2 (0) rfl dL_law_1 rfl ?_
  refine V_aload_n 3 0 rfl _ rfl rfl dL_law_2 rfl ?_
  refine V_iload_n 4 1 rfl rfl dL_law_3 rfl ?_
  refine V_callVc (hx := fun x => if x = 1 then some 12 else none) (K' := 8) (S' := 48) 7 0 10 1 [.int p1] mkX10_law lkL_15 (by decide) rfl rfl (by decide) rfl (Nat.le_of_ble_eq_true rfl) (Nat.le_of_ble_eq_true rfl) (Nat.le_of_ble_eq_true rfl) (Nat.le_of_ble_eq_true rfl) hnL_law rfl dL_law_4 rfl (hc _ (fun I' R' hC' hF' => ?_))
  cases eo : x.1 with
  | inl v =>
    show V G mL_law (d + 900 + 1) 8 48 8 48 7 [(0, rf G 0), (1, .int p1), (2, rf G 102)] [.int v, .int 0, rf G 102] 103 I' R' J Q
    refine V_i2l 8 dL_law_7 rfl ?_
    refine V_last 9 102 1 (vp_in_nI (n := 0) (N := 1) (by decide) (by decide)) rfl (by decide) dL_law_8 rfl ?_
    refine V_goto 15 rfl dL_law_9 ?_
    refine V_iconst 16 (0) rfl dL_law_15 rfl ?_
    refine V_ret_i rfl rfl (Nat.le_of_ble_eq_true rfl) (fun h => absurd h (by decide)) (Nat.le_of_ble_eq_true rfl) (by have q := hq I' R' (upJ J 102 (0 : Int32).toNatClampNeg v.toInt64) hC' hF' (fun w e => by rw [eo] at e; cases e; rfl); rw [eo] at q; exact q) dL_law_16
  | inr k =>
    have hk1 := hk k eo
    subst hk1
    refine ⟨rfl, fun q => ?_⟩
    refine V_astore_n 13 q rfl [(3, .ref q), (0, rf G 0), (1, .int p1), (2, rf G 102)] (by decide) rfl rfl dL_law_12 rfl ?_
    refine V_iconst 14 (1) rfl dL_law_13 rfl ?_
    exact V_ret_i rfl rfl (Nat.le_of_ble_eq_true rfl) (fun h => absurd h (by decide)) (Nat.le_of_ble_eq_true rfl) (by have q := hq I' R' J hC' hF' (fun w e => by rw [eo] at e; cases e); rw [eo] at q; exact q) dL_law_14
theorem h_line {G : Gx} {d : Nat} {I : FI} {R : FR} {J : FJ} {Q : Po} {p1 p2 : Int32} {x : Tr} (hk : ∀ k, x.1 = .inr k → k < 2) (hc : ∀ Q', HC I R J Q' x → Cc G mX10_line (d + 900) 8 48 [rf G 0, .int p1, .int p2] 103 I R J Q') (hq : ∀ I' R' J', SC I' R' x.2 → FrCl I I' R R' → (∀ v, x.1 = .inl v → J' 102 0 = v.toInt64) → Q (.inl (some (.int (thC 2 x.1)))) 103 I' R' J') : Cc G mL_line (d + 901) 8 48 [rf G 0, .int p1, .int p2, rf G 102] 103 I R J Q := by
  show V _ _ _ _ _ _ _ _ [(0, rf G 0), (1, .int p1), (2, .int p2), (3, rf G 102)] [] _ _ _ _ _
  refine V_aload_n 1 3 rfl _ rfl rfl dL_line_0 rfl ?_
  refine V_iconst 2 (0) rfl dL_line_1 rfl ?_
  refine V_aload_n 3 0 rfl _ rfl rfl dL_line_2 rfl ?_
  refine V_iload_n 4 1 rfl rfl dL_line_3 rfl ?_
  refine V_iload_n 5 2 rfl rfl dL_line_4 rfl ?_
  refine V_callVc (hx := fun x => if x = 0 then some 13 else if x = 1 then some 17 else none) (K' := 8) (S' := 48) 8 0 10 2 [.int p1, .int p2] mkX10_line lkL_62 (by decide) rfl rfl (by decide) rfl (Nat.le_of_ble_eq_true rfl) (Nat.le_of_ble_eq_true rfl) (Nat.le_of_ble_eq_true rfl) (Nat.le_of_ble_eq_true rfl) hnL_line rfl dL_line_5 rfl (hc _ (fun I' R' hC' hF' => ?_))
  cases eo : x.1 with
  | inl v =>
    show V G mL_line (d + 900 + 1) 8 48 8 48 8 [(0, rf G 0), (1, .int p1), (2, .int p2), (3, rf G 102)] [.int v, .int 0, rf G 102] 103 I' R' J Q
    refine V_i2l 9 dL_line_8 rfl ?_
    refine V_last 10 102 1 (vp_in_nI (n := 0) (N := 1) (by decide) (by decide)) rfl (by decide) dL_line_9 rfl ?_
    refine V_goto 21 rfl dL_line_10 ?_
    refine V_iconst 22 (0) rfl dL_line_21 rfl ?_
    refine V_ret_i rfl rfl (Nat.le_of_ble_eq_true rfl) (fun h => absurd h (by decide)) (Nat.le_of_ble_eq_true rfl) (by have q := hq I' R' (upJ J 102 (0 : Int32).toNatClampNeg v.toInt64) hC' hF' (fun w e => by rw [eo] at e; cases e; rfl); rw [eo] at q; exact q) dL_line_22
  | inr k =>
    have hk1 := hk k eo
    rcases (show k = 0 ∨ k = 1 by omega) with rfl | rfl
    · refine ⟨rfl, fun q => ?_⟩
      refine V_astore 15 q rfl [(4, .ref q), (0, rf G 0), (1, .int p1), (2, .int p2), (3, rf G 102)] (by decide) rfl dL_line_13 rfl ?_
      refine V_iconst 16 (1) rfl dL_line_15 rfl ?_
      exact V_ret_i rfl rfl (Nat.le_of_ble_eq_true rfl) (fun h => absurd h (by decide)) (Nat.le_of_ble_eq_true rfl) (by have q := hq I' R' J hC' hF' (fun w e => by rw [eo] at e; cases e); rw [eo] at q; exact q) dL_line_16
    · refine ⟨rfl, fun q => ?_⟩
      refine V_astore 19 q rfl [(4, .ref q), (0, rf G 0), (1, .int p1), (2, .int p2), (3, rf G 102)] (by decide) rfl dL_line_17 rfl ?_
      refine V_iconst 20 (2) rfl dL_line_19 rfl ?_
      exact V_ret_i rfl rfl (Nat.le_of_ble_eq_true rfl) (fun h => absurd h (by decide)) (Nat.le_of_ble_eq_true rfl) (by have q := hq I' R' J hC' hF' (fun w e => by rw [eo] at e; cases e); rw [eo] at q; exact q) dL_line_20
theorem h_look {G : Gx} {d : Nat} {I : FI} {R : FR} {J : FJ} {Q : Po} {p1 p2 : Int32} {x : Tr} (hk : ∀ k, x.1 = .inr k → k < 2) (hc : ∀ Q', HC I R J Q' x → Cc G mX10_look (d + 900) 8 48 [rf G 0, .int p1, .int p2] 103 I R J Q') (hq : ∀ I' R' J', SC I' R' x.2 → FrCl I I' R R' → (∀ v, x.1 = .inl v → J' 102 0 = v.toInt64) → Q (.inl (some (.int (thC 2 x.1)))) 103 I' R' J') : Cc G mL_look (d + 901) 8 48 [rf G 0, .int p1, .int p2, rf G 102] 103 I R J Q := by
  show V _ _ _ _ _ _ _ _ [(0, rf G 0), (1, .int p1), (2, .int p2), (3, rf G 102)] [] _ _ _ _ _
  refine V_aload_n 1 3 rfl _ rfl rfl dL_look_0 rfl ?_
  refine V_iconst 2 (0) rfl dL_look_1 rfl ?_
  refine V_aload_n 3 0 rfl _ rfl rfl dL_look_2 rfl ?_
  refine V_iload_n 4 1 rfl rfl dL_look_3 rfl ?_
  refine V_iload_n 5 2 rfl rfl dL_look_4 rfl ?_
  refine V_callVc (hx := fun x => if x = 0 then some 13 else if x = 1 then some 17 else none) (K' := 8) (S' := 48) 8 0 10 2 [.int p1, .int p2] mkX10_look lkL_72 (by decide) rfl rfl (by decide) rfl (Nat.le_of_ble_eq_true rfl) (Nat.le_of_ble_eq_true rfl) (Nat.le_of_ble_eq_true rfl) (Nat.le_of_ble_eq_true rfl) hnL_look rfl dL_look_5 rfl (hc _ (fun I' R' hC' hF' => ?_))
  cases eo : x.1 with
  | inl v =>
    show V G mL_look (d + 900 + 1) 8 48 8 48 8 [(0, rf G 0), (1, .int p1), (2, .int p2), (3, rf G 102)] [.int v, .int 0, rf G 102] 103 I' R' J Q
    refine V_i2l 9 dL_look_8 rfl ?_
    refine V_last 10 102 1 (vp_in_nI (n := 0) (N := 1) (by decide) (by decide)) rfl (by decide) dL_look_9 rfl ?_
    refine V_goto 21 rfl dL_look_10 ?_
    refine V_iconst 22 (0) rfl dL_look_21 rfl ?_
    refine V_ret_i rfl rfl (Nat.le_of_ble_eq_true rfl) (fun h => absurd h (by decide)) (Nat.le_of_ble_eq_true rfl) (by have q := hq I' R' (upJ J 102 (0 : Int32).toNatClampNeg v.toInt64) hC' hF' (fun w e => by rw [eo] at e; cases e; rfl); rw [eo] at q; exact q) dL_look_22
  | inr k =>
    have hk1 := hk k eo
    rcases (show k = 0 ∨ k = 1 by omega) with rfl | rfl
    · refine ⟨rfl, fun q => ?_⟩
      refine V_astore 15 q rfl [(4, .ref q), (0, rf G 0), (1, .int p1), (2, .int p2), (3, rf G 102)] (by decide) rfl dL_look_13 rfl ?_
      refine V_iconst 16 (1) rfl dL_look_15 rfl ?_
      exact V_ret_i rfl rfl (Nat.le_of_ble_eq_true rfl) (fun h => absurd h (by decide)) (Nat.le_of_ble_eq_true rfl) (by have q := hq I' R' J hC' hF' (fun w e => by rw [eo] at e; cases e); rw [eo] at q; exact q) dL_look_16
    · refine ⟨rfl, fun q => ?_⟩
      refine V_astore 19 q rfl [(4, .ref q), (0, rf G 0), (1, .int p1), (2, .int p2), (3, rf G 102)] (by decide) rfl dL_look_17 rfl ?_
      refine V_iconst 20 (2) rfl dL_look_19 rfl ?_
      exact V_ret_i rfl rfl (Nat.le_of_ble_eq_true rfl) (fun h => absurd h (by decide)) (Nat.le_of_ble_eq_true rfl) (by have q := hq I' R' J hC' hF' (fun w e => by rw [eo] at e; cases e); rw [eo] at q; exact q) dL_look_20
theorem h_man {G : Gx} {d : Nat} {I : FI} {R : FR} {J : FJ} {Q : Po} {p1 p2 : Int32} {x : Tr} (hk : ∀ k, x.1 = .inr k → k < 2) (hc : ∀ Q', HC I R J Q' x → Cc G mX10_man (d + 900) 8 48 [rf G 0, .int p1, .int p2] 103 I R J Q') (hq : ∀ I' R' J', SC I' R' x.2 → FrCl I I' R R' → (∀ v, x.1 = .inl v → J' 102 0 = v.toInt64) → Q (.inl (some (.int (thC 2 x.1)))) 103 I' R' J') : Cc G mL_man (d + 901) 8 48 [rf G 0, .int p1, .int p2, rf G 102] 103 I R J Q := by
  show V _ _ _ _ _ _ _ _ [(0, rf G 0), (1, .int p1), (2, .int p2), (3, rf G 102)] [] _ _ _ _ _
  refine V_aload_n 1 3 rfl _ rfl rfl dL_man_0 rfl ?_
  refine V_iconst 2 (0) rfl dL_man_1 rfl ?_
  refine V_aload_n 3 0 rfl _ rfl rfl dL_man_2 rfl ?_
  refine V_iload_n 4 1 rfl rfl dL_man_3 rfl ?_
  refine V_iload_n 5 2 rfl rfl dL_man_4 rfl ?_
  refine V_callVc (hx := fun x => if x = 0 then some 13 else if x = 1 then some 17 else none) (K' := 8) (S' := 48) 8 0 10 2 [.int p1, .int p2] mkX10_man lkL_36 (by decide) rfl rfl (by decide) rfl (Nat.le_of_ble_eq_true rfl) (Nat.le_of_ble_eq_true rfl) (Nat.le_of_ble_eq_true rfl) (Nat.le_of_ble_eq_true rfl) hnL_man rfl dL_man_5 rfl (hc _ (fun I' R' hC' hF' => ?_))
  cases eo : x.1 with
  | inl v =>
    show V G mL_man (d + 900 + 1) 8 48 8 48 8 [(0, rf G 0), (1, .int p1), (2, .int p2), (3, rf G 102)] [.int v, .int 0, rf G 102] 103 I' R' J Q
    refine V_i2l 9 dL_man_8 rfl ?_
    refine V_last 10 102 1 (vp_in_nI (n := 0) (N := 1) (by decide) (by decide)) rfl (by decide) dL_man_9 rfl ?_
    refine V_goto 21 rfl dL_man_10 ?_
    refine V_iconst 22 (0) rfl dL_man_21 rfl ?_
    refine V_ret_i rfl rfl (Nat.le_of_ble_eq_true rfl) (fun h => absurd h (by decide)) (Nat.le_of_ble_eq_true rfl) (by have q := hq I' R' (upJ J 102 (0 : Int32).toNatClampNeg v.toInt64) hC' hF' (fun w e => by rw [eo] at e; cases e; rfl); rw [eo] at q; exact q) dL_man_22
  | inr k =>
    have hk1 := hk k eo
    rcases (show k = 0 ∨ k = 1 by omega) with rfl | rfl
    · refine ⟨rfl, fun q => ?_⟩
      refine V_astore 15 q rfl [(4, .ref q), (0, rf G 0), (1, .int p1), (2, .int p2), (3, rf G 102)] (by decide) rfl dL_man_13 rfl ?_
      refine V_iconst 16 (1) rfl dL_man_15 rfl ?_
      exact V_ret_i rfl rfl (Nat.le_of_ble_eq_true rfl) (fun h => absurd h (by decide)) (Nat.le_of_ble_eq_true rfl) (by have q := hq I' R' J hC' hF' (fun w e => by rw [eo] at e; cases e); rw [eo] at q; exact q) dL_man_16
    · refine ⟨rfl, fun q => ?_⟩
      refine V_astore 19 q rfl [(4, .ref q), (0, rf G 0), (1, .int p1), (2, .int p2), (3, rf G 102)] (by decide) rfl dL_man_17 rfl ?_
      refine V_iconst 20 (2) rfl dL_man_19 rfl ?_
      exact V_ret_i rfl rfl (Nat.le_of_ble_eq_true rfl) (fun h => absurd h (by decide)) (Nat.le_of_ble_eq_true rfl) (by have q := hq I' R' J hC' hF' (fun w e => by rw [eo] at e; cases e); rw [eo] at q; exact q) dL_man_20
theorem h_meets {G : Gx} {d : Nat} {I : FI} {R : FR} {J : FJ} {Q : Po} {p1 p2 p3 : Int32} {x : Tr} (hk : ∀ k, x.1 = .inr k → k < 2) (hc : ∀ Q', HC I R J Q' x → Cc G mX10_meets (d + 900) 8 48 [rf G 0, .int p1, .int p2, .int p3] 103 I R J Q') (hq : ∀ I' R' J', SC I' R' x.2 → FrCl I I' R R' → (∀ v, x.1 = .inl v → J' 102 0 = v.toInt64) → Q (.inl (some (.int (thC 2 x.1)))) 103 I' R' J') : Cc G mL_meets (d + 901) 8 48 [rf G 0, .int p1, .int p2, .int p3, rf G 102] 103 I R J Q := by
  show V _ _ _ _ _ _ _ _ [(0, rf G 0), (1, .int p1), (2, .int p2), (3, .int p3), (4, rf G 102)] [] _ _ _ _ _
  refine V_aload 2 4 rfl _ rfl dL_meets_0 rfl ?_
  refine V_iconst 3 (0) rfl dL_meets_2 rfl ?_
  refine V_aload_n 4 0 rfl _ rfl rfl dL_meets_3 rfl ?_
  refine V_iload_n 5 1 rfl rfl dL_meets_4 rfl ?_
  refine V_iload_n 6 2 rfl rfl dL_meets_5 rfl ?_
  refine V_iload_n 7 3 rfl rfl dL_meets_6 rfl ?_
  refine V_callVc (hx := fun x => if x = 0 then some 15 else if x = 1 then some 19 else none) (K' := 8) (S' := 48) 10 0 10 3 [.int p1, .int p2, .int p3] mkX10_meets lkL_65 (by decide) rfl rfl (by decide) rfl (Nat.le_of_ble_eq_true rfl) (Nat.le_of_ble_eq_true rfl) (Nat.le_of_ble_eq_true rfl) (Nat.le_of_ble_eq_true rfl) hnL_meets rfl dL_meets_7 rfl (hc _ (fun I' R' hC' hF' => ?_))
  cases eo : x.1 with
  | inl v =>
    show V G mL_meets (d + 900 + 1) 8 48 8 48 10 [(0, rf G 0), (1, .int p1), (2, .int p2), (3, .int p3), (4, rf G 102)] [.int v, .int 0, rf G 102] 103 I' R' J Q
    refine V_i2l 11 dL_meets_10 rfl ?_
    refine V_last 12 102 1 (vp_in_nI (n := 0) (N := 1) (by decide) (by decide)) rfl (by decide) dL_meets_11 rfl ?_
    refine V_goto 23 rfl dL_meets_12 ?_
    refine V_iconst 24 (0) rfl dL_meets_23 rfl ?_
    refine V_ret_i rfl rfl (Nat.le_of_ble_eq_true rfl) (fun h => absurd h (by decide)) (Nat.le_of_ble_eq_true rfl) (by have q := hq I' R' (upJ J 102 (0 : Int32).toNatClampNeg v.toInt64) hC' hF' (fun w e => by rw [eo] at e; cases e; rfl); rw [eo] at q; exact q) dL_meets_24
  | inr k =>
    have hk1 := hk k eo
    rcases (show k = 0 ∨ k = 1 by omega) with rfl | rfl
    · refine ⟨rfl, fun q => ?_⟩
      refine V_astore 17 q rfl [(5, .ref q), (0, rf G 0), (1, .int p1), (2, .int p2), (3, .int p3), (4, rf G 102)] (by decide) rfl dL_meets_15 rfl ?_
      refine V_iconst 18 (1) rfl dL_meets_17 rfl ?_
      exact V_ret_i rfl rfl (Nat.le_of_ble_eq_true rfl) (fun h => absurd h (by decide)) (Nat.le_of_ble_eq_true rfl) (by have q := hq I' R' J hC' hF' (fun w e => by rw [eo] at e; cases e); rw [eo] at q; exact q) dL_meets_18
    · refine ⟨rfl, fun q => ?_⟩
      refine V_astore 21 q rfl [(5, .ref q), (0, rf G 0), (1, .int p1), (2, .int p2), (3, .int p3), (4, rf G 102)] (by decide) rfl dL_meets_19 rfl ?_
      refine V_iconst 22 (2) rfl dL_meets_21 rfl ?_
      exact V_ret_i rfl rfl (Nat.le_of_ble_eq_true rfl) (fun h => absurd h (by decide)) (Nat.le_of_ble_eq_true rfl) (by have q := hq I' R' J hC' hF' (fun w e => by rw [eo] at e; cases e); rw [eo] at q; exact q) dL_meets_22
theorem h_row {G : Gx} {d : Nat} {I : FI} {R : FR} {J : FJ} {Q : Po} {p1 : Int32} {x : Tr} (hk : ∀ k, x.1 = .inr k → k = 0) (hc : ∀ Q', HC I R J Q' x → Cc G mX10_row (d + 900) 8 48 [rf G 0, .int p1] 103 I R J Q') (hq : ∀ I' R' J', SC I' R' x.2 → FrCl I I' R R' → (∀ v, x.1 = .inl v → J' 102 0 = v.toInt64) → Q (.inl (some (.int (thC 1 x.1)))) 103 I' R' J') : Cc G mL_row (d + 901) 8 48 [rf G 0, .int p1, rf G 102] 103 I R J Q := by
  show V _ _ _ _ _ _ _ _ [(0, rf G 0), (1, .int p1), (2, rf G 102)] [] _ _ _ _ _
  refine V_aload_n 1 2 rfl _ rfl rfl dL_row_0 rfl ?_
  refine V_iconst 2 (0) rfl dL_row_1 rfl ?_
  refine V_aload_n 3 0 rfl _ rfl rfl dL_row_2 rfl ?_
  refine V_iload_n 4 1 rfl rfl dL_row_3 rfl ?_
  refine V_callVc (hx := fun x => if x = 0 then some 12 else none) (K' := 8) (S' := 48) 7 0 10 1 [.int p1] mkX10_row lkL_94 (by decide) rfl rfl (by decide) rfl (Nat.le_of_ble_eq_true rfl) (Nat.le_of_ble_eq_true rfl) (Nat.le_of_ble_eq_true rfl) (Nat.le_of_ble_eq_true rfl) hnL_row rfl dL_row_4 rfl (hc _ (fun I' R' hC' hF' => ?_))
  cases eo : x.1 with
  | inl v =>
    show V G mL_row (d + 900 + 1) 8 48 8 48 7 [(0, rf G 0), (1, .int p1), (2, rf G 102)] [.int v, .int 0, rf G 102] 103 I' R' J Q
    refine V_i2l 8 dL_row_7 rfl ?_
    refine V_last 9 102 1 (vp_in_nI (n := 0) (N := 1) (by decide) (by decide)) rfl (by decide) dL_row_8 rfl ?_
    refine V_goto 15 rfl dL_row_9 ?_
    refine V_iconst 16 (0) rfl dL_row_15 rfl ?_
    refine V_ret_i rfl rfl (Nat.le_of_ble_eq_true rfl) (fun h => absurd h (by decide)) (Nat.le_of_ble_eq_true rfl) (by have q := hq I' R' (upJ J 102 (0 : Int32).toNatClampNeg v.toInt64) hC' hF' (fun w e => by rw [eo] at e; cases e; rfl); rw [eo] at q; exact q) dL_row_16
  | inr k =>
    have hk1 := hk k eo
    subst hk1
    refine ⟨rfl, fun q => ?_⟩
    refine V_astore_n 13 q rfl [(3, .ref q), (0, rf G 0), (1, .int p1), (2, rf G 102)] (by decide) rfl rfl dL_row_12 rfl ?_
    refine V_iconst 14 (1) rfl dL_row_13 rfl ?_
    exact V_ret_i rfl rfl (Nat.le_of_ble_eq_true rfl) (fun h => absurd h (by decide)) (Nat.le_of_ble_eq_true rfl) (by have q := hq I' R' J hC' hF' (fun w e => by rw [eo] at e; cases e); rw [eo] at q; exact q) dL_row_14
theorem h_sea {G : Gx} {d : Nat} {I : FI} {R : FR} {J : FJ} {Q : Po} {p1 : Int32} {x : Tr} (hk : ∀ k, x.1 = .inr k → k = 0) (hc : ∀ Q', HC I R J Q' x → Cc G mX10_sea (d + 900) 8 48 [rf G 0, .int p1] 103 I R J Q') (hq : ∀ I' R' J', SC I' R' x.2 → FrCl I I' R R' → (∀ v, x.1 = .inl v → J' 102 0 = v.toInt64) → Q (.inl (some (.int (thC 1 x.1)))) 103 I' R' J') : Cc G mL_sea (d + 901) 8 48 [rf G 0, .int p1, rf G 102] 103 I R J Q := by
  show V _ _ _ _ _ _ _ _ [(0, rf G 0), (1, .int p1), (2, rf G 102)] [] _ _ _ _ _
  refine V_aload_n 1 2 rfl _ rfl rfl dL_sea_0 rfl ?_
  refine V_iconst 2 (0) rfl dL_sea_1 rfl ?_
  refine V_aload_n 3 0 rfl _ rfl rfl dL_sea_2 rfl ?_
  refine V_iload_n 4 1 rfl rfl dL_sea_3 rfl ?_
  refine V_callVc (hx := fun x => if x = 0 then some 12 else none) (K' := 8) (S' := 48) 7 0 10 1 [.int p1] mkX10_sea lkL_39 (by decide) rfl rfl (by decide) rfl (Nat.le_of_ble_eq_true rfl) (Nat.le_of_ble_eq_true rfl) (Nat.le_of_ble_eq_true rfl) (Nat.le_of_ble_eq_true rfl) hnL_sea rfl dL_sea_4 rfl (hc _ (fun I' R' hC' hF' => ?_))
  cases eo : x.1 with
  | inl v =>
    show V G mL_sea (d + 900 + 1) 8 48 8 48 7 [(0, rf G 0), (1, .int p1), (2, rf G 102)] [.int v, .int 0, rf G 102] 103 I' R' J Q
    refine V_i2l 8 dL_sea_7 rfl ?_
    refine V_last 9 102 1 (vp_in_nI (n := 0) (N := 1) (by decide) (by decide)) rfl (by decide) dL_sea_8 rfl ?_
    refine V_goto 15 rfl dL_sea_9 ?_
    refine V_iconst 16 (0) rfl dL_sea_15 rfl ?_
    refine V_ret_i rfl rfl (Nat.le_of_ble_eq_true rfl) (fun h => absurd h (by decide)) (Nat.le_of_ble_eq_true rfl) (by have q := hq I' R' (upJ J 102 (0 : Int32).toNatClampNeg v.toInt64) hC' hF' (fun w e => by rw [eo] at e; cases e; rfl); rw [eo] at q; exact q) dL_sea_16
  | inr k =>
    have hk1 := hk k eo
    subst hk1
    refine ⟨rfl, fun q => ?_⟩
    refine V_astore_n 13 q rfl [(3, .ref q), (0, rf G 0), (1, .int p1), (2, rf G 102)] (by decide) rfl rfl dL_sea_12 rfl ?_
    refine V_iconst 14 (1) rfl dL_sea_13 rfl ?_
    exact V_ret_i rfl rfl (Nat.le_of_ble_eq_true rfl) (fun h => absurd h (by decide)) (Nat.le_of_ble_eq_true rfl) (by have q := hq I' R' J hC' hF' (fun w e => by rw [eo] at e; cases e); rw [eo] at q; exact q) dL_sea_14
theorem h_season {G : Gx} {d : Nat} {I : FI} {R : FR} {J : FJ} {Q : Po} {p1 p2 p3 p4 : Int32} {x : Tr} (hk : ∀ k, x.1 = .inr k → k = 1) (hc : ∀ Q', HC I R J Q' x → Cc G mX10_season (d + 900) 8 48 [rf G 0, .int p1, .int p2, .int p3, .int p4] 103 I R J Q') (hq : ∀ I' R' J', SC I' R' x.2 → FrCl I I' R R' → (∀ v, x.1 = .inl v → J' 102 0 = v.toInt64) → Q (.inl (some (.int (thC 1 x.1)))) 103 I' R' J') : Cc G mL_season (d + 901) 8 48 [rf G 0, .int p1, .int p2, .int p3, .int p4, rf G 102] 103 I R J Q := by
  show V _ _ _ _ _ _ _ _ [(0, rf G 0), (1, .int p1), (2, .int p2), (3, .int p3), (4, .int p4), (5, rf G 102)] [] _ _ _ _ _
  refine V_aload 2 5 rfl _ rfl dL_season_0 rfl ?_
  refine V_iconst 3 (0) rfl dL_season_2 rfl ?_
  refine V_aload_n 4 0 rfl _ rfl rfl dL_season_3 rfl ?_
  refine V_iload_n 5 1 rfl rfl dL_season_4 rfl ?_
  refine V_iload_n 6 2 rfl rfl dL_season_5 rfl ?_
  refine V_iload_n 7 3 rfl rfl dL_season_6 rfl ?_
  refine V_iload 9 4 rfl dL_season_7 rfl ?_
  refine V_callVc (hx := fun x => if x = 1 then some 17 else none) (K' := 8) (S' := 48) 12 0 10 4 [.int p1, .int p2, .int p3, .int p4] mkX10_season lkL_97 (by decide) rfl rfl (by decide) rfl (Nat.le_of_ble_eq_true rfl) (Nat.le_of_ble_eq_true rfl) (Nat.le_of_ble_eq_true rfl) (Nat.le_of_ble_eq_true rfl) hnL_season rfl dL_season_9 rfl (hc _ (fun I' R' hC' hF' => ?_))
  cases eo : x.1 with
  | inl v =>
    show V G mL_season (d + 900 + 1) 8 48 8 48 12 [(0, rf G 0), (1, .int p1), (2, .int p2), (3, .int p3), (4, .int p4), (5, rf G 102)] [.int v, .int 0, rf G 102] 103 I' R' J Q
    refine V_i2l 13 dL_season_12 rfl ?_
    refine V_last 14 102 1 (vp_in_nI (n := 0) (N := 1) (by decide) (by decide)) rfl (by decide) dL_season_13 rfl ?_
    refine V_goto 21 rfl dL_season_14 ?_
    refine V_iconst 22 (0) rfl dL_season_21 rfl ?_
    refine V_ret_i rfl rfl (Nat.le_of_ble_eq_true rfl) (fun h => absurd h (by decide)) (Nat.le_of_ble_eq_true rfl) (by have q := hq I' R' (upJ J 102 (0 : Int32).toNatClampNeg v.toInt64) hC' hF' (fun w e => by rw [eo] at e; cases e; rfl); rw [eo] at q; exact q) dL_season_22
  | inr k =>
    have hk1 := hk k eo
    subst hk1
    refine ⟨rfl, fun q => ?_⟩
    refine V_astore 19 q rfl [(6, .ref q), (0, rf G 0), (1, .int p1), (2, .int p2), (3, .int p3), (4, .int p4), (5, rf G 102)] (by decide) rfl dL_season_17 rfl ?_
    refine V_iconst 20 (1) rfl dL_season_19 rfl ?_
    exact V_ret_i rfl rfl (Nat.le_of_ble_eq_true rfl) (fun h => absurd h (by decide)) (Nat.le_of_ble_eq_true rfl) (by have q := hq I' R' J hC' hF' (fun w e => by rw [eo] at e; cases e); rw [eo] at q; exact q) dL_season_20
theorem h_share {G : Gx} {d : Nat} {I : FI} {R : FR} {J : FJ} {Q : Po} {p1 p2 p3 : Int32} {x : Tr} (hk : ∀ k, x.1 = .inr k → k < 2) (hc : ∀ Q', HC I R J Q' x → Cc G mX10_share (d + 900) 8 48 [rf G 0, .int p1, .int p2, .int p3] 103 I R J Q') (hq : ∀ I' R' J', SC I' R' x.2 → FrCl I I' R R' → (∀ v, x.1 = .inl v → J' 102 0 = v.toInt64) → Q (.inl (some (.int (thC 2 x.1)))) 103 I' R' J') : Cc G mL_share (d + 901) 8 48 [rf G 0, .int p1, .int p2, .int p3, rf G 102] 103 I R J Q := by
  show V _ _ _ _ _ _ _ _ [(0, rf G 0), (1, .int p1), (2, .int p2), (3, .int p3), (4, rf G 102)] [] _ _ _ _ _
  refine V_aload 2 4 rfl _ rfl dL_share_0 rfl ?_
  refine V_iconst 3 (0) rfl dL_share_2 rfl ?_
  refine V_aload_n 4 0 rfl _ rfl rfl dL_share_3 rfl ?_
  refine V_iload_n 5 1 rfl rfl dL_share_4 rfl ?_
  refine V_iload_n 6 2 rfl rfl dL_share_5 rfl ?_
  refine V_iload_n 7 3 rfl rfl dL_share_6 rfl ?_
  refine V_callVc (hx := fun x => if x = 0 then some 15 else if x = 1 then some 19 else none) (K' := 8) (S' := 48) 10 0 10 3 [.int p1, .int p2, .int p3] mkX10_share lkL_85 (by decide) rfl rfl (by decide) rfl (Nat.le_of_ble_eq_true rfl) (Nat.le_of_ble_eq_true rfl) (Nat.le_of_ble_eq_true rfl) (Nat.le_of_ble_eq_true rfl) hnL_share rfl dL_share_7 rfl (hc _ (fun I' R' hC' hF' => ?_))
  cases eo : x.1 with
  | inl v =>
    show V G mL_share (d + 900 + 1) 8 48 8 48 10 [(0, rf G 0), (1, .int p1), (2, .int p2), (3, .int p3), (4, rf G 102)] [.int v, .int 0, rf G 102] 103 I' R' J Q
    refine V_i2l 11 dL_share_10 rfl ?_
    refine V_last 12 102 1 (vp_in_nI (n := 0) (N := 1) (by decide) (by decide)) rfl (by decide) dL_share_11 rfl ?_
    refine V_goto 23 rfl dL_share_12 ?_
    refine V_iconst 24 (0) rfl dL_share_23 rfl ?_
    refine V_ret_i rfl rfl (Nat.le_of_ble_eq_true rfl) (fun h => absurd h (by decide)) (Nat.le_of_ble_eq_true rfl) (by have q := hq I' R' (upJ J 102 (0 : Int32).toNatClampNeg v.toInt64) hC' hF' (fun w e => by rw [eo] at e; cases e; rfl); rw [eo] at q; exact q) dL_share_24
  | inr k =>
    have hk1 := hk k eo
    rcases (show k = 0 ∨ k = 1 by omega) with rfl | rfl
    · refine ⟨rfl, fun q => ?_⟩
      refine V_astore 17 q rfl [(5, .ref q), (0, rf G 0), (1, .int p1), (2, .int p2), (3, .int p3), (4, rf G 102)] (by decide) rfl dL_share_15 rfl ?_
      refine V_iconst 18 (1) rfl dL_share_17 rfl ?_
      exact V_ret_i rfl rfl (Nat.le_of_ble_eq_true rfl) (fun h => absurd h (by decide)) (Nat.le_of_ble_eq_true rfl) (by have q := hq I' R' J hC' hF' (fun w e => by rw [eo] at e; cases e); rw [eo] at q; exact q) dL_share_18
    · refine ⟨rfl, fun q => ?_⟩
      refine V_astore 21 q rfl [(5, .ref q), (0, rf G 0), (1, .int p1), (2, .int p2), (3, .int p3), (4, rf G 102)] (by decide) rfl dL_share_19 rfl ?_
      refine V_iconst 22 (2) rfl dL_share_21 rfl ?_
      exact V_ret_i rfl rfl (Nat.le_of_ble_eq_true rfl) (fun h => absurd h (by decide)) (Nat.le_of_ble_eq_true rfl) (by have q := hq I' R' J hC' hF' (fun w e => by rw [eo] at e; cases e); rw [eo] at q; exact q) dL_share_22
theorem h_span {G : Gx} {d : Nat} {I : FI} {R : FR} {J : FJ} {Q : Po} {p1 p2 p3 p4 p5 : Int32} {x : Tr} (hk : ∀ k, x.1 = .inr k → k = 1) (hc : ∀ Q', HC I R J Q' x → Cc G mX10_span (d + 900) 8 48 [rf G 0, .int p1, .int p2, .int p3, .int p4, .int p5] 103 I R J Q') (hq : ∀ I' R' J', SC I' R' x.2 → FrCl I I' R R' → (∀ v, x.1 = .inl v → J' 102 0 = v.toInt64) → Q (.inl (some (.int (thC 1 x.1)))) 103 I' R' J') : Cc G mL_span (d + 901) 8 48 [rf G 0, .int p1, .int p2, .int p3, .int p4, .int p5, rf G 102] 103 I R J Q := by
  show V _ _ _ _ _ _ _ _ [(0, rf G 0), (1, .int p1), (2, .int p2), (3, .int p3), (4, .int p4), (5, .int p5), (6, rf G 102)] [] _ _ _ _ _
  refine V_aload 2 6 rfl _ rfl dL_span_0 rfl ?_
  refine V_iconst 3 (0) rfl dL_span_2 rfl ?_
  refine V_aload_n 4 0 rfl _ rfl rfl dL_span_3 rfl ?_
  refine V_iload_n 5 1 rfl rfl dL_span_4 rfl ?_
  refine V_iload_n 6 2 rfl rfl dL_span_5 rfl ?_
  refine V_iload_n 7 3 rfl rfl dL_span_6 rfl ?_
  refine V_iload 9 4 rfl dL_span_7 rfl ?_
  refine V_iload 11 5 rfl dL_span_9 rfl ?_
  refine V_callVc (hx := fun x => if x = 1 then some 19 else none) (K' := 8) (S' := 48) 14 0 10 5 [.int p1, .int p2, .int p3, .int p4, .int p5] mkX10_span lkL_100 (by decide) rfl rfl (by decide) rfl (Nat.le_of_ble_eq_true rfl) (Nat.le_of_ble_eq_true rfl) (Nat.le_of_ble_eq_true rfl) (Nat.le_of_ble_eq_true rfl) hnL_span rfl dL_span_11 rfl (hc _ (fun I' R' hC' hF' => ?_))
  cases eo : x.1 with
  | inl v =>
    show V G mL_span (d + 900 + 1) 8 48 8 48 14 [(0, rf G 0), (1, .int p1), (2, .int p2), (3, .int p3), (4, .int p4), (5, .int p5), (6, rf G 102)] [.int v, .int 0, rf G 102] 103 I' R' J Q
    refine V_i2l 15 dL_span_14 rfl ?_
    refine V_last 16 102 1 (vp_in_nI (n := 0) (N := 1) (by decide) (by decide)) rfl (by decide) dL_span_15 rfl ?_
    refine V_goto 23 rfl dL_span_16 ?_
    refine V_iconst 24 (0) rfl dL_span_23 rfl ?_
    refine V_ret_i rfl rfl (Nat.le_of_ble_eq_true rfl) (fun h => absurd h (by decide)) (Nat.le_of_ble_eq_true rfl) (by have q := hq I' R' (upJ J 102 (0 : Int32).toNatClampNeg v.toInt64) hC' hF' (fun w e => by rw [eo] at e; cases e; rfl); rw [eo] at q; exact q) dL_span_24
  | inr k =>
    have hk1 := hk k eo
    subst hk1
    refine ⟨rfl, fun q => ?_⟩
    refine V_astore 21 q rfl [(7, .ref q), (0, rf G 0), (1, .int p1), (2, .int p2), (3, .int p3), (4, .int p4), (5, .int p5), (6, rf G 102)] (by decide) rfl dL_span_19 rfl ?_
    refine V_iconst 22 (1) rfl dL_span_21 rfl ?_
    exact V_ret_i rfl rfl (Nat.le_of_ble_eq_true rfl) (fun h => absurd h (by decide)) (Nat.le_of_ble_eq_true rfl) (by have q := hq I' R' J hC' hF' (fun w e => by rw [eo] at e; cases e); rw [eo] at q; exact q) dL_span_22
theorem h_squall {G : Gx} {d : Nat} {I : FI} {R : FR} {J : FJ} {Q : Po} {p1 p2 p3 : Int32} {x : OcL × SG} (hk : ∀ k, x.1 = .inr k → k = 1) (hc : ∀ Q', HCL I R J Q' x → Cc G mX10_squall (d + 900) 8 48 [rf G 0, .int p1, .int p2, .int p3] 103 I R J Q') (hq : ∀ I' R' J', SC I' R' x.2 → FrCl I I' R R' → (∀ v, x.1 = .inl v → J' 102 0 = v) → Q (.inl (some (.int (thL 1 x.1)))) 103 I' R' J') : Cc G mL_squall (d + 901) 8 48 [rf G 0, .int p1, .int p2, .int p3, rf G 102] 103 I R J Q := by
  show V _ _ _ _ _ _ _ _ [(0, rf G 0), (1, .int p1), (2, .int p2), (3, .int p3), (4, rf G 102)] [] _ _ _ _ _
  refine V_aload 2 4 rfl _ rfl dL_squall_0 rfl ?_
  refine V_iconst 3 (0) rfl dL_squall_2 rfl ?_
  refine V_aload_n 4 0 rfl _ rfl rfl dL_squall_3 rfl ?_
  refine V_iload_n 5 1 rfl rfl dL_squall_4 rfl ?_
  refine V_iload_n 6 2 rfl rfl dL_squall_5 rfl ?_
  refine V_iload_n 7 3 rfl rfl dL_squall_6 rfl ?_
  refine V_callVc (hx := fun x => if x = 1 then some 14 else none) (K' := 8) (S' := 48) 10 0 10 3 [.int p1, .int p2, .int p3] mkX10_squall lkL_78 (by decide) rfl rfl (by decide) rfl (Nat.le_of_ble_eq_true rfl) (Nat.le_of_ble_eq_true rfl) (Nat.le_of_ble_eq_true rfl) (Nat.le_of_ble_eq_true rfl) hnL_squall rfl dL_squall_7 rfl (hc _ (fun I' R' hC' hF' => ?_))
  cases eo : x.1 with
  | inl v =>
    show V G mL_squall (d + 900 + 1) 8 48 8 48 10 [(0, rf G 0), (1, .int p1), (2, .int p2), (3, .int p3), (4, rf G 102)] [.long v, .int 0, rf G 102] 103 I' R' J Q
    refine V_last 11 102 1 (vp_in_nI (n := 0) (N := 1) (by decide) (by decide)) rfl (by decide) dL_squall_10 rfl ?_
    refine V_goto 18 rfl dL_squall_11 ?_
    refine V_iconst 19 (0) rfl dL_squall_18 rfl ?_
    refine V_ret_i rfl rfl (Nat.le_of_ble_eq_true rfl) (fun h => absurd h (by decide)) (Nat.le_of_ble_eq_true rfl) (by have q := hq I' R' (upJ J 102 (0 : Int32).toNatClampNeg v) hC' hF' (fun w e => by rw [eo] at e; cases e; rfl); rw [eo] at q; exact q) dL_squall_19
  | inr k =>
    have hk1 := hk k eo
    subst hk1
    refine ⟨rfl, fun q => ?_⟩
    refine V_astore 16 q rfl [(5, .ref q), (0, rf G 0), (1, .int p1), (2, .int p2), (3, .int p3), (4, rf G 102)] (by decide) rfl dL_squall_14 rfl ?_
    refine V_iconst 17 (1) rfl dL_squall_16 rfl ?_
    exact V_ret_i rfl rfl (Nat.le_of_ble_eq_true rfl) (fun h => absurd h (by decide)) (Nat.le_of_ble_eq_true rfl) (by have q := hq I' R' J hC' hF' (fun w e => by rw [eo] at e; cases e); rw [eo] at q; exact q) dL_squall_17
theorem h_suits {G : Gx} {d : Nat} {I : FI} {R : FR} {J : FJ} {Q : Po} {p1 p2 p3 p4 : Int32} {x : Tr} (hk : ∀ k, x.1 = .inr k → k < 2) (hc : ∀ Q', HC I R J Q' x → Cc G mX10_suits (d + 900) 8 48 [rf G 0, .int p1, .int p2, .int p3, .int p4] 103 I R J Q') (hq : ∀ I' R' J', SC I' R' x.2 → FrCl I I' R R' → (∀ v, x.1 = .inl v → J' 102 0 = v.toInt64) → Q (.inl (some (.int (thC 2 x.1)))) 103 I' R' J') : Cc G mL_suits (d + 901) 8 48 [rf G 0, .int p1, .int p2, .int p3, .int p4, rf G 102] 103 I R J Q := by
  show V _ _ _ _ _ _ _ _ [(0, rf G 0), (1, .int p1), (2, .int p2), (3, .int p3), (4, .int p4), (5, rf G 102)] [] _ _ _ _ _
  refine V_aload 2 5 rfl _ rfl dL_suits_0 rfl ?_
  refine V_iconst 3 (0) rfl dL_suits_2 rfl ?_
  refine V_aload_n 4 0 rfl _ rfl rfl dL_suits_3 rfl ?_
  refine V_iload_n 5 1 rfl rfl dL_suits_4 rfl ?_
  refine V_iload_n 6 2 rfl rfl dL_suits_5 rfl ?_
  refine V_iload_n 7 3 rfl rfl dL_suits_6 rfl ?_
  refine V_iload 9 4 rfl dL_suits_7 rfl ?_
  refine V_callVc (hx := fun x => if x = 0 then some 17 else if x = 1 then some 21 else none) (K' := 8) (S' := 48) 12 0 10 4 [.int p1, .int p2, .int p3, .int p4] mkX10_suits lkL_52 (by decide) rfl rfl (by decide) rfl (Nat.le_of_ble_eq_true rfl) (Nat.le_of_ble_eq_true rfl) (Nat.le_of_ble_eq_true rfl) (Nat.le_of_ble_eq_true rfl) hnL_suits rfl dL_suits_9 rfl (hc _ (fun I' R' hC' hF' => ?_))
  cases eo : x.1 with
  | inl v =>
    show V G mL_suits (d + 900 + 1) 8 48 8 48 12 [(0, rf G 0), (1, .int p1), (2, .int p2), (3, .int p3), (4, .int p4), (5, rf G 102)] [.int v, .int 0, rf G 102] 103 I' R' J Q
    refine V_i2l 13 dL_suits_12 rfl ?_
    refine V_last 14 102 1 (vp_in_nI (n := 0) (N := 1) (by decide) (by decide)) rfl (by decide) dL_suits_13 rfl ?_
    refine V_goto 25 rfl dL_suits_14 ?_
    refine V_iconst 26 (0) rfl dL_suits_25 rfl ?_
    refine V_ret_i rfl rfl (Nat.le_of_ble_eq_true rfl) (fun h => absurd h (by decide)) (Nat.le_of_ble_eq_true rfl) (by have q := hq I' R' (upJ J 102 (0 : Int32).toNatClampNeg v.toInt64) hC' hF' (fun w e => by rw [eo] at e; cases e; rfl); rw [eo] at q; exact q) dL_suits_26
  | inr k =>
    have hk1 := hk k eo
    rcases (show k = 0 ∨ k = 1 by omega) with rfl | rfl
    · refine ⟨rfl, fun q => ?_⟩
      refine V_astore 19 q rfl [(6, .ref q), (0, rf G 0), (1, .int p1), (2, .int p2), (3, .int p3), (4, .int p4), (5, rf G 102)] (by decide) rfl dL_suits_17 rfl ?_
      refine V_iconst 20 (1) rfl dL_suits_19 rfl ?_
      exact V_ret_i rfl rfl (Nat.le_of_ble_eq_true rfl) (fun h => absurd h (by decide)) (Nat.le_of_ble_eq_true rfl) (by have q := hq I' R' J hC' hF' (fun w e => by rw [eo] at e; cases e); rw [eo] at q; exact q) dL_suits_20
    · refine ⟨rfl, fun q => ?_⟩
      refine V_astore 23 q rfl [(6, .ref q), (0, rf G 0), (1, .int p1), (2, .int p2), (3, .int p3), (4, .int p4), (5, rf G 102)] (by decide) rfl dL_suits_21 rfl ?_
      refine V_iconst 24 (2) rfl dL_suits_23 rfl ?_
      exact V_ret_i rfl rfl (Nat.le_of_ble_eq_true rfl) (fun h => absurd h (by decide)) (Nat.le_of_ble_eq_true rfl) (by have q := hq I' R' J hC' hF' (fun w e => by rw [eo] at e; cases e); rw [eo] at q; exact q) dL_suits_24
theorem h_told {G : Gx} {d : Nat} {I : FI} {R : FR} {J : FJ} {Q : Po} {p1 : Int32} {x : Tr} (hk : ∀ k, x.1 = .inr k → k = 1) (hc : ∀ Q', HC I R J Q' x → Cc G mX10_told (d + 900) 8 48 [rf G 0, .int p1] 103 I R J Q') (hq : ∀ I' R' J', SC I' R' x.2 → FrCl I I' R R' → (∀ v, x.1 = .inl v → J' 102 0 = v.toInt64) → Q (.inl (some (.int (thC 1 x.1)))) 103 I' R' J') : Cc G mL_told (d + 901) 8 48 [rf G 0, .int p1, rf G 102] 103 I R J Q := by
  show V _ _ _ _ _ _ _ _ [(0, rf G 0), (1, .int p1), (2, rf G 102)] [] _ _ _ _ _
  refine V_aload_n 1 2 rfl _ rfl rfl dL_told_0 rfl ?_
  refine V_iconst 2 (0) rfl dL_told_1 rfl ?_
  refine V_aload_n 3 0 rfl _ rfl rfl dL_told_2 rfl ?_
  refine V_iload_n 4 1 rfl rfl dL_told_3 rfl ?_
  refine V_callVc (hx := fun x => if x = 1 then some 12 else none) (K' := 8) (S' := 48) 7 0 10 1 [.int p1] mkX10_told lkL_24 (by decide) rfl rfl (by decide) rfl (Nat.le_of_ble_eq_true rfl) (Nat.le_of_ble_eq_true rfl) (Nat.le_of_ble_eq_true rfl) (Nat.le_of_ble_eq_true rfl) hnL_told rfl dL_told_4 rfl (hc _ (fun I' R' hC' hF' => ?_))
  cases eo : x.1 with
  | inl v =>
    show V G mL_told (d + 900 + 1) 8 48 8 48 7 [(0, rf G 0), (1, .int p1), (2, rf G 102)] [.int v, .int 0, rf G 102] 103 I' R' J Q
    refine V_i2l 8 dL_told_7 rfl ?_
    refine V_last 9 102 1 (vp_in_nI (n := 0) (N := 1) (by decide) (by decide)) rfl (by decide) dL_told_8 rfl ?_
    refine V_goto 15 rfl dL_told_9 ?_
    refine V_iconst 16 (0) rfl dL_told_15 rfl ?_
    refine V_ret_i rfl rfl (Nat.le_of_ble_eq_true rfl) (fun h => absurd h (by decide)) (Nat.le_of_ble_eq_true rfl) (by have q := hq I' R' (upJ J 102 (0 : Int32).toNatClampNeg v.toInt64) hC' hF' (fun w e => by rw [eo] at e; cases e; rfl); rw [eo] at q; exact q) dL_told_16
  | inr k =>
    have hk1 := hk k eo
    subst hk1
    refine ⟨rfl, fun q => ?_⟩
    refine V_astore_n 13 q rfl [(3, .ref q), (0, rf G 0), (1, .int p1), (2, rf G 102)] (by decide) rfl rfl dL_told_12 rfl ?_
    refine V_iconst 14 (1) rfl dL_told_13 rfl ?_
    exact V_ret_i rfl rfl (Nat.le_of_ble_eq_true rfl) (fun h => absurd h (by decide)) (Nat.le_of_ble_eq_true rfl) (by have q := hq I' R' J hC' hF' (fun w e => by rw [eo] at e; cases e); rw [eo] at q; exact q) dL_told_14
theorem h_two {G : Gx} {d : Nat} {I : FI} {R : FR} {J : FJ} {Q : Po} {p1 p2 p3 : Int32} {x : Tr} (hk : ∀ k, x.1 = .inr k → k = 1) (hc : ∀ Q', HC I R J Q' x → Cc G mX10_two (d + 900) 8 48 [rf G 0, .int p1, .int p2, .int p3] 103 I R J Q') (hq : ∀ I' R' J', SC I' R' x.2 → FrCl I I' R R' → (∀ v, x.1 = .inl v → J' 102 0 = v.toInt64) → Q (.inl (some (.int (thC 1 x.1)))) 103 I' R' J') : Cc G mL_two (d + 901) 8 48 [rf G 0, .int p1, .int p2, .int p3, rf G 102] 103 I R J Q := by
  show V _ _ _ _ _ _ _ _ [(0, rf G 0), (1, .int p1), (2, .int p2), (3, .int p3), (4, rf G 102)] [] _ _ _ _ _
  refine V_aload 2 4 rfl _ rfl dL_two_0 rfl ?_
  refine V_iconst 3 (0) rfl dL_two_2 rfl ?_
  refine V_aload_n 4 0 rfl _ rfl rfl dL_two_3 rfl ?_
  refine V_iload_n 5 1 rfl rfl dL_two_4 rfl ?_
  refine V_iload_n 6 2 rfl rfl dL_two_5 rfl ?_
  refine V_iload_n 7 3 rfl rfl dL_two_6 rfl ?_
  refine V_callVc (hx := fun x => if x = 1 then some 15 else none) (K' := 8) (S' := 48) 10 0 10 3 [.int p1, .int p2, .int p3] mkX10_two lkL_82 (by decide) rfl rfl (by decide) rfl (Nat.le_of_ble_eq_true rfl) (Nat.le_of_ble_eq_true rfl) (Nat.le_of_ble_eq_true rfl) (Nat.le_of_ble_eq_true rfl) hnL_two rfl dL_two_7 rfl (hc _ (fun I' R' hC' hF' => ?_))
  cases eo : x.1 with
  | inl v =>
    show V G mL_two (d + 900 + 1) 8 48 8 48 10 [(0, rf G 0), (1, .int p1), (2, .int p2), (3, .int p3), (4, rf G 102)] [.int v, .int 0, rf G 102] 103 I' R' J Q
    refine V_i2l 11 dL_two_10 rfl ?_
    refine V_last 12 102 1 (vp_in_nI (n := 0) (N := 1) (by decide) (by decide)) rfl (by decide) dL_two_11 rfl ?_
    refine V_goto 19 rfl dL_two_12 ?_
    refine V_iconst 20 (0) rfl dL_two_19 rfl ?_
    refine V_ret_i rfl rfl (Nat.le_of_ble_eq_true rfl) (fun h => absurd h (by decide)) (Nat.le_of_ble_eq_true rfl) (by have q := hq I' R' (upJ J 102 (0 : Int32).toNatClampNeg v.toInt64) hC' hF' (fun w e => by rw [eo] at e; cases e; rfl); rw [eo] at q; exact q) dL_two_20
  | inr k =>
    have hk1 := hk k eo
    subst hk1
    refine ⟨rfl, fun q => ?_⟩
    refine V_astore 17 q rfl [(5, .ref q), (0, rf G 0), (1, .int p1), (2, .int p2), (3, .int p3), (4, rf G 102)] (by decide) rfl dL_two_15 rfl ?_
    refine V_iconst 18 (1) rfl dL_two_17 rfl ?_
    exact V_ret_i rfl rfl (Nat.le_of_ble_eq_true rfl) (fun h => absurd h (by decide)) (Nat.le_of_ble_eq_true rfl) (by have q := hq I' R' J hC' hF' (fun w e => by rw [eo] at e; cases e); rw [eo] at q; exact q) dL_two_18
theorem h_work {G : Gx} {d : Nat} {I : FI} {R : FR} {J : FJ} {Q : Po} {p1 : Int32} {x : Tr} (hk : ∀ k, x.1 = .inr k → k = 1) (hc : ∀ Q', HC I R J Q' x → Cc G mX10_work (d + 900) 8 48 [rf G 0, .int p1] 103 I R J Q') (hq : ∀ I' R' J', SC I' R' x.2 → FrCl I I' R R' → (∀ v, x.1 = .inl v → J' 102 0 = v.toInt64) → Q (.inl (some (.int (thC 1 x.1)))) 103 I' R' J') : Cc G mL_work (d + 901) 8 48 [rf G 0, .int p1, rf G 102] 103 I R J Q := by
  show V _ _ _ _ _ _ _ _ [(0, rf G 0), (1, .int p1), (2, rf G 102)] [] _ _ _ _ _
  refine V_aload_n 1 2 rfl _ rfl rfl dL_work_0 rfl ?_
  refine V_iconst 2 (0) rfl dL_work_1 rfl ?_
  refine V_aload_n 3 0 rfl _ rfl rfl dL_work_2 rfl ?_
  refine V_iload_n 4 1 rfl rfl dL_work_3 rfl ?_
  refine V_callVc (hx := fun x => if x = 1 then some 12 else none) (K' := 8) (S' := 48) 7 0 10 1 [.int p1] mkX10_work lkL_18 (by decide) rfl rfl (by decide) rfl (Nat.le_of_ble_eq_true rfl) (Nat.le_of_ble_eq_true rfl) (Nat.le_of_ble_eq_true rfl) (Nat.le_of_ble_eq_true rfl) hnL_work rfl dL_work_4 rfl (hc _ (fun I' R' hC' hF' => ?_))
  cases eo : x.1 with
  | inl v =>
    show V G mL_work (d + 900 + 1) 8 48 8 48 7 [(0, rf G 0), (1, .int p1), (2, rf G 102)] [.int v, .int 0, rf G 102] 103 I' R' J Q
    refine V_i2l 8 dL_work_7 rfl ?_
    refine V_last 9 102 1 (vp_in_nI (n := 0) (N := 1) (by decide) (by decide)) rfl (by decide) dL_work_8 rfl ?_
    refine V_goto 15 rfl dL_work_9 ?_
    refine V_iconst 16 (0) rfl dL_work_15 rfl ?_
    refine V_ret_i rfl rfl (Nat.le_of_ble_eq_true rfl) (fun h => absurd h (by decide)) (Nat.le_of_ble_eq_true rfl) (by have q := hq I' R' (upJ J 102 (0 : Int32).toNatClampNeg v.toInt64) hC' hF' (fun w e => by rw [eo] at e; cases e; rfl); rw [eo] at q; exact q) dL_work_16
  | inr k =>
    have hk1 := hk k eo
    subst hk1
    refine ⟨rfl, fun q => ?_⟩
    refine V_astore_n 13 q rfl [(3, .ref q), (0, rf G 0), (1, .int p1), (2, rf G 102)] (by decide) rfl rfl dL_work_12 rfl ?_
    refine V_iconst 14 (1) rfl dL_work_13 rfl ?_
    exact V_ret_i rfl rfl (Nat.le_of_ble_eq_true rfl) (fun h => absurd h (by decide)) (Nat.le_of_ble_eq_true rfl) (by have q := hq I' R' J hC' hF' (fun w e => by rw [eo] at e; cases e); rw [eo] at q; exact q) dL_work_14
theorem h_would {G : Gx} {d : Nat} {I : FI} {R : FR} {J : FJ} {Q : Po} {p1 p2 p3 p4 p5 p6 p7 p8 : Int32} {x : Tr} (hk : ∀ k, x.1 = .inr k → k = 1) (hc : ∀ Q', HC I R J Q' x → Cc G mX10_would (d + 900) 8 48 [rf G 0, .int p1, .int p2, .int p3, .int p4, .int p5, .int p6, .int p7, .int p8] 103 I R J Q') (hq : ∀ I' R' J', SC I' R' x.2 → FrCl I I' R R' → (∀ v, x.1 = .inl v → J' 102 0 = v.toInt64) → Q (.inl (some (.int (thC 1 x.1)))) 103 I' R' J') : Cc G mL_would (d + 901) 8 48 [rf G 0, .int p1, .int p2, .int p3, .int p4, .int p5, .int p6, .int p7, .int p8, rf G 102] 103 I R J Q := by
  show V _ _ _ _ _ _ _ _ [(0, rf G 0), (1, .int p1), (2, .int p2), (3, .int p3), (4, .int p4), (5, .int p5), (6, .int p6), (7, .int p7), (8, .int p8), (9, rf G 102)] [] _ _ _ _ _
  refine V_aload 2 9 rfl _ rfl dL_would_0 rfl ?_
  refine V_iconst 3 (0) rfl dL_would_2 rfl ?_
  refine V_aload_n 4 0 rfl _ rfl rfl dL_would_3 rfl ?_
  refine V_iload_n 5 1 rfl rfl dL_would_4 rfl ?_
  refine V_iload_n 6 2 rfl rfl dL_would_5 rfl ?_
  refine V_iload_n 7 3 rfl rfl dL_would_6 rfl ?_
  refine V_iload 9 4 rfl dL_would_7 rfl ?_
  refine V_iload 11 5 rfl dL_would_9 rfl ?_
  refine V_iload 13 6 rfl dL_would_11 rfl ?_
  refine V_iload 15 7 rfl dL_would_13 rfl ?_
  refine V_iload 17 8 rfl dL_would_15 rfl ?_
  refine V_callVc (hx := fun x => if x = 1 then some 25 else none) (K' := 8) (S' := 48) 20 0 10 8 [.int p1, .int p2, .int p3, .int p4, .int p5, .int p6, .int p7, .int p8] mkX10_would lkL_42 (by decide) rfl rfl (by decide) rfl (Nat.le_of_ble_eq_true rfl) (Nat.le_of_ble_eq_true rfl) (Nat.le_of_ble_eq_true rfl) (Nat.le_of_ble_eq_true rfl) hnL_would rfl dL_would_17 rfl (hc _ (fun I' R' hC' hF' => ?_))
  cases eo : x.1 with
  | inl v =>
    show V G mL_would (d + 900 + 1) 8 48 8 48 20 [(0, rf G 0), (1, .int p1), (2, .int p2), (3, .int p3), (4, .int p4), (5, .int p5), (6, .int p6), (7, .int p7), (8, .int p8), (9, rf G 102)] [.int v, .int 0, rf G 102] 103 I' R' J Q
    refine V_i2l 21 dL_would_20 rfl ?_
    refine V_last 22 102 1 (vp_in_nI (n := 0) (N := 1) (by decide) (by decide)) rfl (by decide) dL_would_21 rfl ?_
    refine V_goto 29 rfl dL_would_22 ?_
    refine V_iconst 30 (0) rfl dL_would_29 rfl ?_
    refine V_ret_i rfl rfl (Nat.le_of_ble_eq_true rfl) (fun h => absurd h (by decide)) (Nat.le_of_ble_eq_true rfl) (by have q := hq I' R' (upJ J 102 (0 : Int32).toNatClampNeg v.toInt64) hC' hF' (fun w e => by rw [eo] at e; cases e; rfl); rw [eo] at q; exact q) dL_would_30
  | inr k =>
    have hk1 := hk k eo
    subst hk1
    refine ⟨rfl, fun q => ?_⟩
    refine V_astore 27 q rfl [(10, .ref q), (0, rf G 0), (1, .int p1), (2, .int p2), (3, .int p3), (4, .int p4), (5, .int p5), (6, .int p6), (7, .int p7), (8, .int p8), (9, rf G 102)] (by decide) rfl dL_would_25 rfl ?_
    refine V_iconst 28 (1) rfl dL_would_27 rfl ?_
    exact V_ret_i rfl rfl (Nat.le_of_ble_eq_true rfl) (fun h => absurd h (by decide)) (Nat.le_of_ble_eq_true rfl) (by have q := hq I' R' J hC' hF' (fun w e => by rw [eo] at e; cases e); rw [eo] at q; exact q) dL_would_28
