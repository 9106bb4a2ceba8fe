/-! ===== the start; what every call keeps ===== -/
def s00 : SG := mkS K0 stdF (day0 K0) (fun _ => 0) 0 0 (fun _ => none) 0 (fun _ _ => 0) 0 (fun _ _ => 0) (fun _ => 0) (fun _ _ _ => 0) 0 (-1) 0 0
theorem s00_I : SI s00 := ⟨K0_W.1, ⟨DI_day0 K0_W.1, d0_LX⟩, fun F => clF_R _, by decide, fun j => (by decide : 0 < 256), (fun k v e => nomatch e), by decide, fun j hj => absurd hj (Nat.not_lt_zero _), by decide, fun j hj => absurd hj (Nat.not_lt_zero _)⟩
def Sm (R : FR) : Prop := ∀ o k, 15 ≤ k → R o k = none
theorem Sm_up {R : FR} {o k : Nat} {v : Option Nat} (h : Sm R) (hk : k < 15) : Sm (upR R o k v) := fun a j hj => by
  by_cases q : a = o
  · subst q; rw [upR_s]; exact (if_neg (by omega)).trans (h a j hj)
  · rw [upR_n _ _ _ q]; exact h a j hj
theorem Sm_RN {R : FR} {o m : Nat} (h : Sm R) (hm : m ≤ 15) : Sm (RN o m R) := fun a j hj => by
  by_cases q : a = o
  · subst q; unfold RN; rw [if_pos rfl]; exact (if_neg (by omega)).trans (h a j hj)
  · rw [RN_n q]; exact h a j hj
theorem RF_Sm : Sm RF := by
  unfold RF
  repeat (first | refine Sm_up ?_ (by decide) | refine Sm_RN ?_ (by decide) | exact fun _ _ _ => rfl)
theorem getD_out {l : List (Option Nat)} {k : Nat} (h : l.length ≤ k) : l.getD k none = none := by
  rw [List.getD_eq_getElem?_getD, List.getElem?_eq_none h]; rfl
theorem refK_len : ∀ o, o < 69 → (refK.getD o []).length ≤ 15 := by decide +kernel
theorem refC_out {o k : Nat} (ho : o < 69) (hk : 15 ≤ k) : refC 4 11 63 o k = none := by
  unfold refC
  split
  · exact getD_out (by show 12 ≤ k; omega)
  · exact getD_out (by show 4 ≤ k; omega)
  · exact getD_out (Nat.le_trans (refK_len o ho) hk)
theorem RS_0 : RS (RX 56 RF) 4 11 63 := fun o k ho => by
  rw [RX_n (by omega)]
  by_cases q : k < 15
  · exact RF_ok o ho k q
  · rw [RF_Sm o k (by omega), refC_out ho (by omega)]
theorem start_C {I' I1 I2 : FI} (h1 : LawC I' 11 stdF) (h2 : DayC I' 18 (day0 K0)) (h3 : ∀ a, a ≠ 1 → (a < 11 ∨ 14 < a) → (a < 58 ∨ 61 < a) → (a < 18 ∨ 25 < a) → I' a = fun _ => 0) (h4 : I' 1 = upd (fun _ => 0) 8 (-1)) (hY : FrY (up2 I' 69 8 (-1)) I1) (hM : SetM I1 I2 K0) : SC I2 (RX 56 RF) s00 := by
  obtain ⟨u1, u30, u46, u35, u56, u36, u93, u88, ua, uj⟩ := hM
  have g : ∀ a, a < 69 → I2 a = I' a := fun a ha => by rw [ua a (by omega) (by omega) (by omega) (by omega), hY.1 a (by omega) (by omega), up2_n _ _ _ (by omega)]
  have z : ∀ a, a < 69 → a ≠ 1 → (a < 11 ∨ 14 < a) → (a < 58 ∨ 61 < a) → (a < 18 ∨ 25 < a) → I2 a = fun _ => 0 := fun a h0 q1 q2 q3 q4 => by rw [g a h0]; exact h3 a q1 q2 q3 q4
  refine ⟨4, 11, 63, ⟨RS_0, Or.inl rfl, Or.inl rfl, Or.inl rfl, ⟨?_, ?_, ?_, fun h hh => absurd hh (Nat.not_lt_zero _), fun h hh => absurd hh (Nat.not_lt_zero _), fun h hh => absurd hh (Nat.not_lt_zero _), fun h hh => absurd hh (Nat.not_lt_zero _), fun h hh => absurd hh (Nat.not_lt_zero _), fun h hh => absurd hh (Nat.not_lt_zero _)⟩, K0_W.1, h2.fr (fun a q1 q2 => g a (by omega)), DI_day0 K0_W.1, h1.fr (fun a q1 q2 => g a (by omega))⟩, ⟨?_, fun j hj => ?_, ?_⟩, ⟨by show 0 ≤ 8; omega, ?_, fun _ => 0, fun _ => 0, fun i hi => absurd hi (Nat.not_lt_zero _), fun h v e => nomatch e⟩, ⟨?_, ?_, fun j hj => absurd hj (Nat.not_lt_zero _), fun j hj => absurd hj (Nat.not_lt_zero _)⟩, ?_, ?_, ?_⟩
  · rw [z 4 (by decide) (by decide) (by decide) (by decide) (by decide)]; rfl
  · rw [z 4 (by decide) (by decide) (by decide) (by decide) (by decide)]; rfl
  · rw [z 4 (by decide) (by decide) (by decide) (by decide) (by decide)]; rfl
  · rw [g 1 (by decide), h4]; rfl
  · rw [z 2 (by decide) (by decide) (by decide) (by decide) (by decide)]; show (0 : Int32) = bI 0; decide
  · rw [g 1 (by decide), h4]; rfl
  · rw [z 63 (by decide) (by decide) (by decide) (by decide) (by decide)]; rfl
  · rw [z 39 (by decide) (by decide) (by decide) (by decide) (by decide)]; rfl
  · rw [z 39 (by decide) (by decide) (by decide) (by decide) (by decide)]; rfl
  · rw [z 0 (by decide) (by decide) (by decide) (by decide) (by decide)]; rfl
  · rw [z 0 (by decide) (by decide) (by decide) (by decide) (by decide)]; rfl
  · rw [z 0 (by decide) (by decide) (by decide) (by decide) (by decide)]; rfl
theorem start_M {I' I1 I2 : FI} {R : FR} (h3 : ∀ a, 69 ≤ a → I' a = fun _ => 0) (hY : FrY (up2 I' 69 8 (-1)) I1) (hM : SetM I1 I2 K0) : SM I2 (RX 56 R) s00 := by
  obtain ⟨u1, u30, u46, u35, u56, u36, u93, u88, ua, uj⟩ := hM
  refine ⟨⟨RX_ok, u1, K0_W.1, u88, DI_day0 K0_W.1, ⟨0, by decide, u30, fun i hi => absurd hi (Nat.not_lt_zero _), fun F => rfl⟩, fun F => clF_R _⟩, ⟨?_, fun j hj => ?_, ?_⟩, ⟨u46, fun h hh => u93 h hh⟩, ⟨u35, u56, fun j hj => absurd hj (Nat.not_lt_zero _), fun j hj => absurd hj (Nat.not_lt_zero _)⟩, u36, ?_, ?_⟩
  · rw [uj 2 (by decide) (by decide) (by decide) (by decide) (by decide) (by decide), hY.2 2 (by decide) (by decide) (by decide), up2_s, upd_n (by decide), h3 69 (by decide)]; rfl
  · rw [ua 71 (by decide) (by decide) (by decide) (by decide), hY.1 71 (by decide) (by decide), up2_n _ _ _ (by decide), h3 71 (by decide)]; rfl
  · rw [uj 8 (by decide) (by decide) (by decide) (by decide) (by decide) (by decide), hY.2 8 (by decide) (by decide) (by decide), up2_s]; exact upd_s
  · rw [ua 70 (by decide) (by decide) (by decide) (by decide), hY.1 70 (by decide) (by decide), up2_n _ _ _ (by decide), h3 70 (by decide)]; rfl
  · rw [ua 70 (by decide) (by decide) (by decide) (by decide), hY.1 70 (by decide) (by decide), up2_n _ _ _ (by decide), h3 70 (by decide)]; rfl
theorem SI_bump {s : SG} (h : SI s) (k : Nat) : SI (bump k s) := by
  unfold bump
  split <;> exact h
theorem SI_aft {s : SG} (h : SI s) (o : Oc) : SI (aftO o s) := by
  cases o with
  | inl v => exact h
  | inr k => exact SI_bump h k
theorem SI_txB {s : SG} (h : SI s) (v : Int32) : SI (txB s v) := by
  obtain ⟨s1, s2, s3, s4, s5, s6, s7, s8, s9, s10⟩ := h
  exact ⟨s1, s2, s3, Nat.zero_le _, s5, s6, s7, s8, s9, s10⟩
theorem SI_feed {s : SG} (h : SI s) (a b c d e : Int32) : SI (feedT s a b c d e).2 := by
  unfold feedT
  by_cases q : 600 < s.tn + 20
  · rw [if_pos q]; exact h
  · rw [if_neg q]
    obtain ⟨s1, s2, s3, s4, s5, s6, s7, s8, s9, s10⟩ := h
    exact ⟨s1, s2, s3, Nat.not_lt.mp q, ap4_lt (ap4_lt (ap4_lt (ap4_lt (ap4_lt s5)))), s6, s7, s8, s9, s10⟩
theorem SI_coast {s : SG} (h : SI s) (x : Int32) : SI (coastT s x).2 := by
  unfold coastT
  by_cases q : ckT x s.tn 600
  · rw [if_pos q]
    cases e : coF s.t x.toNatClampNeg with
    | inl y => exact SI_txB h _
    | inr K =>
      have hW := coF_W e
      obtain ⟨s1, s2, s3, s4, s5, s6, s7, s8, s9, s10⟩ := h
      exact ⟨hW, ⟨DI_day0 hW, d0_LX⟩, fun F => clF_R _, Nat.zero_le _, s5, (fun k v e => nomatch e), Nat.zero_le _, fun j hj => absurd hj (Nat.not_lt_zero _), Nat.zero_le _, fun j hj => absurd hj (Nat.not_lt_zero _)⟩
  · rw [if_neg q]; exact SI_bump h 1
theorem SI_law {s : SG} (h : SI s) (x : Int32) : SI (lawT s x).2 := by
  unfold lawT
  by_cases q : ckT x s.tn 150
  · rw [if_pos q]
    cases e : lawF s.t x.toNatClampNeg with
    | inl y => exact SI_txB h _
    | inr e2 =>
      obtain ⟨s1, s2, s3, s4, s5, s6, s7, s8, s9, s10⟩ := h
      exact ⟨s1, s2, fun F => clF_R _, Nat.zero_le _, s5, s6, s7, s8, s9, s10⟩
  · rw [if_neg q]; exact SI_bump h 1
theorem SI_book {s : SG} (h : SI s) (x : Int32) : SI (bookT s x).2 := by
  unfold bookT
  by_cases q : ckT x s.tn 60
  · rw [if_pos q]
    cases e : bkF s.t x.toNatClampNeg with
    | inl y => exact SI_txB h _
    | inr y =>
      have hb := bkL_ok 10 0 (fun _ => none) _ y.1 y.2 e (by decide) (fun k v e => nomatch e)
      obtain ⟨s1, s2, s3, s4, s5, s6, s7, s8, s9, s10⟩ := h
      exact ⟨s1, s2, s3, Nat.zero_le _, s5, hb.2, s7, s8, s9, s10⟩
  · rw [if_neg q]; exact SI_bump h 1
theorem SI_work {s : SG} (h : SI s) (x : Int32) : SI (workT s x).2 := by
  unfold workT
  by_cases q : ckT x s.tn 150
  · rw [if_pos q]
    by_cases hw : s.wn = 16
    · rw [if_pos hw]; exact SI_txB h _
    · rw [if_neg hw]
      cases e : wkF s.t x.toNatClampNeg s.K with
      | inl y => exact SI_txB h _
      | inr y =>
        obtain ⟨s1, s2, s3, s4, s5, s6, s7, s8, s9, s10⟩ := h
        have hok := exL_ok s1 s3 6 0 y.1.1 (s.D, 0, 0, 0) (wkF_ok (n := y.1.1) (S := y.1.2) (p := y.2) e).2 ⟨s2.1, s2.2, Nat.zero_le _, Nat.zero_le _⟩
        refine ⟨s1, ⟨hok.1.1, hok.1.2.1⟩, s3, Nat.zero_le _, s5, s6, by show s.wn + 1 ≤ 16; omega, fun j hj => ?_, s9, s10⟩
        have hj1 : j < s.wn + 1 := hj
        show okD s.K (if j = s.wn then s.D else s.W j)
        by_cases c : j = s.wn
        · rw [if_pos c]; exact s2
        · rw [if_neg c]; exact s8 j (by omega)
  · rw [if_neg q]; exact SI_bump h 1
theorem SI_undo {s : SG} (h : SI s) : SI (undoT s).2 := by
  unfold undoT
  by_cases q : s.wn = 0
  · rw [if_pos q]; exact h
  · rw [if_neg q]
    obtain ⟨s1, s2, s3, s4, s5, s6, s7, s8, s9, s10⟩ := h
    exact ⟨s1, s8 _ (by omega), s3, s4, s5, s6, by show s.wn - 1 ≤ 16; omega, fun j hj => s8 j (by have hj1 : j < s.wn - 1 := hj; omega), s9, s10⟩
theorem SI_image {s : SG} (h : SI s) : SI (imageT s).2 := by
  unfold imageT
  by_cases q : s.mn = 3
  · rw [if_pos q]; exact h
  · rw [if_neg q]
    obtain ⟨s1, s2, s3, s4, s5, s6, s7, s8, s9, s10⟩ := h
    refine ⟨s1, s2, s3, s4, s5, s6, s7, s8, by show s.mn + 1 ≤ 3; omega, fun i hi => ?_⟩
    have hi1 : i < s.mn + 1 := hi
    show okD s.K (if i = s.mn then s.D else s.M i) ∧ (if i = s.mn then s.wn else s.mw i) ≤ 16 ∧ ∀ j, j < (if i = s.mn then s.wn else s.mw i) → okD s.K ((if i = s.mn then s.W else s.MW i) j)
    by_cases c : i = s.mn
    · rw [if_pos c, if_pos c, if_pos c]; exact ⟨s2, s7, s8⟩
    · rw [if_neg c, if_neg c, if_neg c]; exact s10 i (by omega)
theorem SI_rest {s : SG} (h : SI s) : SI (restT s).2 := by
  unfold restT
  by_cases q : s.mn = 0
  · rw [if_pos q]; exact h
  · rw [if_neg q]
    obtain ⟨s1, s2, s3, s4, s5, s6, s7, s8, s9, s10⟩ := h
    obtain ⟨y1, y2, y3⟩ := s10 (s.mn - 1) (by omega)
    exact ⟨s1, y1, s3, s4, s5, s6, y2, y3, by show s.mn - 1 ≤ 3; omega, fun j hj => s10 j (by have hj1 : j < s.mn - 1 := hj; omega)⟩
