/-! ===== the class's Shore ===== -/
theorem CoastC.fr {I I' : FI} {c : Nat} {K : CO} (h : CoastC I c K) (hf : ∀ a, c ≤ a → a ≤ c + 6 → I' a = I a) : CoastC I' c K := by
  unfold CoastC at *
  rw [hf c (by omega) (by omega), hf (c + 1) (by omega) (by omega), hf (c + 2) (by omega) (by omega), hf (c + 3) (by omega) (by omega), hf (c + 4) (by omega) (by omega), hf (c + 5) (by omega) (by omega), hf (c + 6) (by omega) (by omega)]
  exact h
theorem DayC.fr {I I' : FI} {o : Nat} {D : DV} (h : DayC I o D) (hf : ∀ a, o ≤ a → a ≤ o + 7 → I' a = I a) : DayC I' o D := by
  unfold DayC at *
  rw [hf o (by omega) (by omega), hf (o + 1) (by omega) (by omega), hf (o + 2) (by omega) (by omega), hf (o + 3) (by omega) (by omega), hf (o + 4) (by omega) (by omega), hf (o + 5) (by omega) (by omega), hf (o + 6) (by omega) (by omega), hf (o + 7) (by omega) (by omega)]
  exact h
theorem LawC.fr {I I' : FI} {l : Nat} {f : DV → Int32} (h : LawC I l f) (hf : ∀ a, l ≤ a → a ≤ l + 3 → I' a = I a) : LawC I' l f := by
  unfold LawC at *
  rw [hf l (by omega) (by omega), hf (l + 1) (by omega) (by omega), hf (l + 2) (by omega) (by omega), hf (l + 3) (by omega) (by omega)]
  exact h
/-- a day's vector is within its COAST -/
def WD (K : CO) (D : DV) : Prop := Flg D ∧ (∀ m, m < 6 → D m = -1 ∨ ∃ h, h < cH K ∧ D m = nI h) ∧ ∀ m, m < 6 → D (6 + m) = -1 ∨ ∃ g, g < cG K ∧ D (6 + m) = nI g
theorem upd_n {f : DV} {k j : Nat} {v : Int32} (h : j ≠ k) : upd f k v j = f j := if_neg h
theorem upd_s {f : DV} {k : Nat} {v : Int32} : upd f k v k = v := if_pos rfl
theorem WD.u {K : CO} {D : DV} {k : Nat} {v : Int32} (h : WD K D) (hk : 12 ≤ k) (hk2 : k < 30 ∨ 36 ≤ k) : WD K (upd D k v) := by
  obtain ⟨h1, h2, h3⟩ := h
  exact ⟨h1.u (Or.inl hk2), fun m hm => by rw [upd_n (by omega)]; exact h2 m hm, fun m hm => by rw [upd_n (by omega)]; exact h3 m hm⟩
theorem WD.lv {K : CO} {D : DV} {m : Nat} (h : WD K D) (hm : m < 6) : WD K (upd D (30 + m) 0) := by
  obtain ⟨h1, h2, h3⟩ := h
  exact ⟨h1.u (Or.inr rfl), fun j hj => by rw [upd_n (by omega)]; exact h2 j hj, fun j hj => by rw [upd_n (by omega)]; exact h3 j hj⟩
theorem WD.on {K : CO} {D : DV} {m : Nat} {v : Int32} (h : WD K D) (hm : m < 6) (hv : v = -1 ∨ ∃ q, q < cH K ∧ v = nI q) : WD K (upd D m v) := by
  obtain ⟨h1, h2, h3⟩ := h
  refine ⟨h1.u (Or.inl (by omega)), fun j hj => ?_, fun j hj => by rw [upd_n (by omega)]; exact h3 j hj⟩
  by_cases e : j = m
  · subst e; rw [upd_s]; exact hv
  · rw [upd_n e]; exact h2 j hj
theorem WD.at {K : CO} {D : DV} {m : Nat} {v : Int32} (h : WD K D) (hm : m < 6) (hv : v = -1 ∨ ∃ q, q < cG K ∧ v = nI q) : WD K (upd D (6 + m) v) := by
  obtain ⟨h1, h2, h3⟩ := h
  refine ⟨h1.u (Or.inl (by omega)), fun j hj => by rw [upd_n (by omega)]; exact h2 j hj, fun j hj => ?_⟩
  by_cases e : j = m
  · subst e; rw [upd_s]; exact hv
  · rw [upd_n (by omega)]; exact h3 j hj
theorem WD.home {K : CO} {D : DV} {m : Nat} (h : WD K D) (hm : m < 6) : WD K (dHome D m) := by
  unfold dHome; split
  · exact h
  · exact (h.at hm (Or.inl rfl)).u (by omega) (by omega)
theorem WD.die0 {K : CO} {D : DV} {m : Nat} (h : WD K D) (hm : m < 6) : WD K (dDie0 D m) := ((h.lv hm).on hm (Or.inl rfl)).home hm
theorem WD.die {K : CO} {D : DV} {m : Nat} {k : Option Nat} (h : WD K D) (hm : m < 6) (hk : ∀ j, k = some j → j < 6) : WD K (dDie D m k) := by
  cases k with
  | none => exact h.die0 hm
  | some j =>
    rw [dDie]; split
    · exact (h.die0 hm).on (hk j rfl) (h.2.1 m hm)
    · exact h.die0 hm
theorem WD.take {K : CO} {D : DV} {m : Nat} {r : Int32} (h : WD K D) (hm : m < 6) : WD K (dTake D m r) := by
  unfold dTake; split
  · exact h
  · exact ((h.u (by omega) (by omega)).u (by omega) (by omega)).u (by omega) (by omega)
def f8 (a0 a1 a2 a3 a4 a5 a6 a7 : Int32) : DV := fun k => match k with
  | 0 => a0
  | 1 => a1
  | 2 => a2
  | 3 => a3
  | 4 => a4
  | 5 => a5
  | 6 => a6
  | _ => a7
/-- the facts of a man alone at a ground in a hat; those of a man at sea among others -/
def aloV (K : CO) (D : DV) (m h g : Nat) : DV := f8 (cHat K (2 * h) + D (36 + h)) (angF (cHat K (2 * h + 1)) (cGr K (2 * g + 1))) 0 (cBt K m) (D (18 + m)) (D (44 + g)) 0 (D 50)
def seaV (K : CO) (D : DV) (m h g : Nat) : DV := f8 (cHat K (2 * h) + D (36 + h)) (angF (cHat K (2 * h + 1)) (cGr K (2 * g + 1))) (D (12 + m)) (cBt K m) (D (18 + m)) (D (44 + g)) (bcI (mAtF D (nI g) 6) - 1) (D 50)
def seaD (K : CO) (f : DV → Int32) (D : DV) (m : Nat) : Int32 := match nOf (D (6 + m)), nOf (D m) with
  | some g, some h => f (seaV K D m h g)
  | _, _ => 0
/-- a LAW looks at the eight facts alone -/
def fX (f : DV → Int32) : Prop := ∀ F F' : DV, (∀ a, a < 8 → F a = F' a) → f F = f F'
theorem evP_F {kd lf rt F F' W : DV} (hF : ∀ a, a < 8 → F a = F' a) : ∀ s, (∀ i, i < s → PtOk kd lf rt i) → evP kd lf rt F W s = evP kd lf rt F' W s := by
  intro s
  induction s with
  | zero => intro _; rfl
  | succ s ih =>
    intro h
    rw [evP, evP, ih (fun i hi => h i (by omega))]
    congr 1
    unfold pvF
    rcases h s (by omega) with h0 | ⟨h1, a, ha, ea⟩ | ⟨k, a, b, k2, k8, -, -, ek, -, -⟩
    · rw [if_pos h0, if_pos h0]
    · rw [ea, nI_clamp (by omega), hF a ha]
    · have n0 : ¬ kd s = 0 := by rw [ek]; exact nI_ne0 (by omega) (by omega)
      have n1 : ¬ kd s = 1 := fun h => by rw [ek] at h; have := (nI_eq (a := k) (b := 1) (by omega) (by decide)).mp h; omega
      rw [if_neg n0, if_neg n0, if_neg n1, if_neg n1]
theorem LawC.ext {I : FI} {l : Nat} {f : DV → Int32} (h : LawC I l f) : fX f := by
  obtain ⟨s, -, -, -, hp, hf⟩ := h
  intro F F' hF
  rw [hf, hf, evP_F hF s hp]
set_option maxHeartbeats 4000000 in
theorem c_X7_standAlone {G : Gx} {d : Nat} {I : FI} {R : FR} {J : FJ} {Q : Po} (hRK : RK R) {c l o : Nat} (hR3c : R 3 0 = some c) (hR3l : R 3 1 = some l) (hR32 : R 3 2 = some 16) (hR33 : R 3 3 = some 17) {K : CO} {D : DV} (hc : c = 4 ∨ c = 51) (ho : o = 18 ∨ o = 26) (hC : CoastC I c K) (hW : WK K) (hD : DayC I o D) {m h g : Nat} (hm : m < cM K) (hh : h < cH K) (hg : g < cG K) (hq : ∀ I', (∀ a, a ≠ 16 → I' a = I a) → (∀ k, k < 8 → I' 16 k = aloV K D m h g k) → Q (.inl none) 103 I' R J) : Cc G mX7_standAlone (d + 1) 0 0 [rf G 3, rf G o, .int (nI m), .int (nI h), .int (nI g)] 103 I R J Q := by
  have hW0 := hW
  obtain ⟨w1, w2, w3, w4, w5, w6, w7⟩ := hW
  rcases hc with rfl | rfl <;> rcases ho with rfl | rfl
  · show V _ _ _ _ _ _ _ _ [(0, rf G 3), (1, rf G 18), (2, .int (nI m)), (3, .int (nI h)), (4, .int (nI g))] [] _ _ _ _ _
    refine V_aload_n 1 0 rfl _ rfl rfl dX7_standAlone_0 rfl ?_
    refine V_getR 4 3 7 2 16 hR32 flX7_25 rfl rfl rfl (by decide) dX7_standAlone_1 rfl ?_
    refine V_iconst 5 (0) rfl dX7_standAlone_4 rfl ?_
    refine V_aload_n 6 0 rfl _ rfl rfl dX7_standAlone_5 rfl ?_
    refine V_getR 9 3 7 0 4 hR3c flX7_12 rfl rfl rfl (by decide) dX7_standAlone_6 rfl ?_
    refine V_getR 12 4 2 0 5 (hRK 4 0 (by decide) (by decide) (by decide)) flX7_60 rfl rfl rfl (by decide) dX7_standAlone_9 rfl ?_
    refine V_iload_n 13 3 rfl rfl dX7_standAlone_12 rfl ?_
    refine V_ialdN 14 5 8 h (cHat K (2 * h)) (hC.2.2.2.1 h hh) (by omega) (by decide) rfl (by decide) dX7_standAlone_13 rfl ?_
    refine V_aload_n 15 1 rfl _ rfl rfl dX7_standAlone_14 rfl ?_
    refine V_getR 18 18 3 5 24 (hRK 18 5 (by decide) (by decide) (by decide)) flX7_63 rfl rfl rfl (by decide) dX7_standAlone_15 rfl ?_
    refine V_iload_n 19 3 rfl rfl dX7_standAlone_18 rfl ?_
    refine V_ialdN 20 24 8 h (D (36 + h)) (hD.2.2.2.2.2.1 h (by omega)) (by omega) (by decide) rfl (by decide) dX7_standAlone_19 rfl ?_
    refine V_iadd 21 dX7_standAlone_20 rfl ?_
    refine V_iastN 22 16 8 0 (by omega) (by decide) rfl (by decide) dX7_standAlone_21 rfl ?_
    refine V_aload_n 23 0 rfl _ rfl rfl dX7_standAlone_22 rfl ?_
    refine V_getR 26 3 7 2 16 hR32 flX7_25 rfl rfl rfl (by decide) dX7_standAlone_23 rfl ?_
    refine V_iconst 27 (1) rfl dX7_standAlone_26 rfl ?_
    refine V_aload_n 28 0 rfl _ rfl rfl dX7_standAlone_27 rfl ?_
    refine V_getR 31 3 7 0 4 hR3c flX7_12 rfl rfl rfl (by decide) dX7_standAlone_28 rfl ?_
    refine V_iload_n 32 3 rfl rfl dX7_standAlone_31 rfl ?_
    refine V_iload 34 4 rfl dX7_standAlone_32 rfl ?_
    refine V_callV (K' := 0) (S' := 0) 37 4 2 2 [.int (nI h), .int (nI g)] mkX2_angleOf lkX7_66 (by decide) rfl rfl (by decide) rfl (Nat.le_of_ble_eq_true rfl) (Nat.le_of_ble_eq_true rfl) (Nat.le_of_ble_eq_true rfl) (Nat.le_of_ble_eq_true rfl) rfl rfl dX7_standAlone_34 rfl (c_X2_angleOf hRK (Or.inl rfl) (hC.fr (fun a h1 h2 => up2_n _ _ _ (by omega))) hW0 hh hg ?_)
    refine Kq_i (k' := 0) (sl' := 0) rfl rfl ?_
    refine V_iastN 38 16 8 1 (by omega) (by decide) rfl (by decide) dX7_standAlone_37 rfl ?_
    refine V_aload_n 39 0 rfl _ rfl rfl dX7_standAlone_38 rfl ?_
    refine V_getR 42 3 7 2 16 hR32 flX7_25 rfl rfl rfl (by decide) dX7_standAlone_39 rfl ?_
    refine V_iconst 43 (2) rfl dX7_standAlone_42 rfl ?_
    refine V_iconst 44 (0) rfl dX7_standAlone_43 rfl ?_
    refine V_iastN 45 16 8 2 (by omega) (by decide) rfl (by decide) dX7_standAlone_44 rfl ?_
    refine V_aload_n 46 0 rfl _ rfl rfl dX7_standAlone_45 rfl ?_
    refine V_getR 49 3 7 2 16 hR32 flX7_25 rfl rfl rfl (by decide) dX7_standAlone_46 rfl ?_
    refine V_iconst 50 (3) rfl dX7_standAlone_49 rfl ?_
    refine V_aload_n 51 0 rfl _ rfl rfl dX7_standAlone_50 rfl ?_
    refine V_getR 54 3 7 0 4 hR3c flX7_12 rfl rfl rfl (by decide) dX7_standAlone_51 rfl ?_
    refine V_getR 57 4 2 4 9 (hRK 4 4 (by decide) (by decide) (by decide)) flX7_70 rfl rfl rfl (by decide) dX7_standAlone_54 rfl ?_
    refine V_iload_n 58 2 rfl rfl dX7_standAlone_57 rfl ?_
    refine V_ialdN 59 9 6 m (cBt K m) (hC.2.2.2.2.2.2.2.1 m hm) (by omega) (by decide) rfl (by decide) dX7_standAlone_58 rfl ?_
    refine V_iastN 60 16 8 3 (by omega) (by decide) rfl (by decide) dX7_standAlone_59 rfl ?_
    refine V_aload_n 61 0 rfl _ rfl rfl dX7_standAlone_60 rfl ?_
    refine V_getR 64 3 7 2 16 hR32 flX7_25 rfl rfl rfl (by decide) dX7_standAlone_61 rfl ?_
    refine V_iconst 65 (4) rfl dX7_standAlone_64 rfl ?_
    refine V_aload_n 66 1 rfl _ rfl rfl dX7_standAlone_65 rfl ?_
    refine V_getR 69 18 3 0 19 (hRK 18 0 (by decide) (by decide) (by decide)) flX7_73 rfl rfl rfl (by decide) dX7_standAlone_66 rfl ?_
    refine V_iload_n 70 2 rfl rfl dX7_standAlone_69 rfl ?_
    refine V_ialdN 71 19 6 m (D (18 + m)) (hD.1 m (by omega)) (by omega) (by decide) rfl (by decide) dX7_standAlone_70 rfl ?_
    refine V_iastN 72 16 8 4 (by omega) (by decide) rfl (by decide) dX7_standAlone_71 rfl ?_
    refine V_aload_n 73 0 rfl _ rfl rfl dX7_standAlone_72 rfl ?_
    refine V_getR 76 3 7 2 16 hR32 flX7_25 rfl rfl rfl (by decide) dX7_standAlone_73 rfl ?_
    refine V_iconst 77 (5) rfl dX7_standAlone_76 rfl ?_
    refine V_aload_n 78 1 rfl _ rfl rfl dX7_standAlone_77 rfl ?_
    refine V_getR 81 18 3 6 25 (hRK 18 6 (by decide) (by decide) (by decide)) flX7_76 rfl rfl rfl (by decide) dX7_standAlone_78 rfl ?_
    refine V_iload 83 4 rfl dX7_standAlone_81 rfl ?_
    refine V_ialdN 84 25 6 g (D (44 + g)) (hD.2.2.2.2.2.2.1 g (by omega)) (by omega) (by decide) rfl (by decide) dX7_standAlone_83 rfl ?_
    refine V_iastN 85 16 8 5 (by omega) (by decide) rfl (by decide) dX7_standAlone_84 rfl ?_
    refine V_aload_n 86 0 rfl _ rfl rfl dX7_standAlone_85 rfl ?_
    refine V_getR 89 3 7 2 16 hR32 flX7_25 rfl rfl rfl (by decide) dX7_standAlone_86 rfl ?_
    refine V_bipush 91 (6) rfl dX7_standAlone_89 rfl ?_
    refine V_iconst 92 (0) rfl dX7_standAlone_91 rfl ?_
    refine V_iastN 93 16 8 6 (by omega) (by decide) rfl (by decide) dX7_standAlone_92 rfl ?_
    refine V_aload_n 94 0 rfl _ rfl rfl dX7_standAlone_93 rfl ?_
    refine V_getR 97 3 7 2 16 hR32 flX7_25 rfl rfl rfl (by decide) dX7_standAlone_94 rfl ?_
    refine V_bipush 99 (7) rfl dX7_standAlone_97 rfl ?_
    refine V_aload_n 100 1 rfl _ rfl rfl dX7_standAlone_99 rfl ?_
    refine V_getI 103 18 3 7 (D 50) hD.2.2.2.2.2.2.2.1 flX7_79 rfl rfl rfl (by decide) dX7_standAlone_100 rfl ?_
    refine V_iastN 104 16 8 7 (by omega) (by decide) rfl (by decide) dX7_standAlone_103 rfl ?_
    refine V_ret_v rfl (Nat.le_refl _) (fun h => absurd h (by decide)) (Nat.le_refl _) (hq _ (fun a ha => by rw [up2_n _ _ _ ha, up2_n _ _ _ ha, up2_n _ _ _ ha, up2_n _ _ _ ha, up2_n _ _ _ ha, up2_n _ _ _ ha, up2_n _ _ _ ha, up2_n _ _ _ ha]) (fun k hk => by rcases (show k = 0 ∨ k = 1 ∨ k = 2 ∨ k = 3 ∨ k = 4 ∨ k = 5 ∨ k = 6 ∨ k = 7 by omega) with rfl | rfl | rfl | rfl | rfl | rfl | rfl | rfl <;> rfl)) dX7_standAlone_104
  · show V _ _ _ _ _ _ _ _ [(0, rf G 3), (1, rf G 26), (2, .int (nI m)), (3, .int (nI h)), (4, .int (nI g))] [] _ _ _ _ _
    refine V_aload_n 1 0 rfl _ rfl rfl dX7_standAlone_0 rfl ?_
    refine V_getR 4 3 7 2 16 hR32 flX7_25 rfl rfl rfl (by decide) dX7_standAlone_1 rfl ?_
    refine V_iconst 5 (0) rfl dX7_standAlone_4 rfl ?_
    refine V_aload_n 6 0 rfl _ rfl rfl dX7_standAlone_5 rfl ?_
    refine V_getR 9 3 7 0 4 hR3c flX7_12 rfl rfl rfl (by decide) dX7_standAlone_6 rfl ?_
    refine V_getR 12 4 2 0 5 (hRK 4 0 (by decide) (by decide) (by decide)) flX7_60 rfl rfl rfl (by decide) dX7_standAlone_9 rfl ?_
    refine V_iload_n 13 3 rfl rfl dX7_standAlone_12 rfl ?_
    refine V_ialdN 14 5 8 h (cHat K (2 * h)) (hC.2.2.2.1 h hh) (by omega) (by decide) rfl (by decide) dX7_standAlone_13 rfl ?_
    refine V_aload_n 15 1 rfl _ rfl rfl dX7_standAlone_14 rfl ?_
    refine V_getR 18 26 3 5 32 (hRK 26 5 (by decide) (by decide) (by decide)) flX7_63 rfl rfl rfl (by decide) dX7_standAlone_15 rfl ?_
    refine V_iload_n 19 3 rfl rfl dX7_standAlone_18 rfl ?_
    refine V_ialdN 20 32 8 h (D (36 + h)) (hD.2.2.2.2.2.1 h (by omega)) (by omega) (by decide) rfl (by decide) dX7_standAlone_19 rfl ?_
    refine V_iadd 21 dX7_standAlone_20 rfl ?_
    refine V_iastN 22 16 8 0 (by omega) (by decide) rfl (by decide) dX7_standAlone_21 rfl ?_
    refine V_aload_n 23 0 rfl _ rfl rfl dX7_standAlone_22 rfl ?_
    refine V_getR 26 3 7 2 16 hR32 flX7_25 rfl rfl rfl (by decide) dX7_standAlone_23 rfl ?_
    refine V_iconst 27 (1) rfl dX7_standAlone_26 rfl ?_
    refine V_aload_n 28 0 rfl _ rfl rfl dX7_standAlone_27 rfl ?_
    refine V_getR 31 3 7 0 4 hR3c flX7_12 rfl rfl rfl (by decide) dX7_standAlone_28 rfl ?_
    refine V_iload_n 32 3 rfl rfl dX7_standAlone_31 rfl ?_
    refine V_iload 34 4 rfl dX7_standAlone_32 rfl ?_
    refine V_callV (K' := 0) (S' := 0) 37 4 2 2 [.int (nI h), .int (nI g)] mkX2_angleOf lkX7_66 (by decide) rfl rfl (by decide) rfl (Nat.le_of_ble_eq_true rfl) (Nat.le_of_ble_eq_true rfl) (Nat.le_of_ble_eq_true rfl) (Nat.le_of_ble_eq_true rfl) rfl rfl dX7_standAlone_34 rfl (c_X2_angleOf hRK (Or.inl rfl) (hC.fr (fun a h1 h2 => up2_n _ _ _ (by omega))) hW0 hh hg ?_)
    refine Kq_i (k' := 0) (sl' := 0) rfl rfl ?_
    refine V_iastN 38 16 8 1 (by omega) (by decide) rfl (by decide) dX7_standAlone_37 rfl ?_
    refine V_aload_n 39 0 rfl _ rfl rfl dX7_standAlone_38 rfl ?_
    refine V_getR 42 3 7 2 16 hR32 flX7_25 rfl rfl rfl (by decide) dX7_standAlone_39 rfl ?_
    refine V_iconst 43 (2) rfl dX7_standAlone_42 rfl ?_
    refine V_iconst 44 (0) rfl dX7_standAlone_43 rfl ?_
    refine V_iastN 45 16 8 2 (by omega) (by decide) rfl (by decide) dX7_standAlone_44 rfl ?_
    refine V_aload_n 46 0 rfl _ rfl rfl dX7_standAlone_45 rfl ?_
    refine V_getR 49 3 7 2 16 hR32 flX7_25 rfl rfl rfl (by decide) dX7_standAlone_46 rfl ?_
    refine V_iconst 50 (3) rfl dX7_standAlone_49 rfl ?_
    refine V_aload_n 51 0 rfl _ rfl rfl dX7_standAlone_50 rfl ?_
    refine V_getR 54 3 7 0 4 hR3c flX7_12 rfl rfl rfl (by decide) dX7_standAlone_51 rfl ?_
    refine V_getR 57 4 2 4 9 (hRK 4 4 (by decide) (by decide) (by decide)) flX7_70 rfl rfl rfl (by decide) dX7_standAlone_54 rfl ?_
    refine V_iload_n 58 2 rfl rfl dX7_standAlone_57 rfl ?_
    refine V_ialdN 59 9 6 m (cBt K m) (hC.2.2.2.2.2.2.2.1 m hm) (by omega) (by decide) rfl (by decide) dX7_standAlone_58 rfl ?_
    refine V_iastN 60 16 8 3 (by omega) (by decide) rfl (by decide) dX7_standAlone_59 rfl ?_
    refine V_aload_n 61 0 rfl _ rfl rfl dX7_standAlone_60 rfl ?_
    refine V_getR 64 3 7 2 16 hR32 flX7_25 rfl rfl rfl (by decide) dX7_standAlone_61 rfl ?_
    refine V_iconst 65 (4) rfl dX7_standAlone_64 rfl ?_
    refine V_aload_n 66 1 rfl _ rfl rfl dX7_standAlone_65 rfl ?_
    refine V_getR 69 26 3 0 27 (hRK 26 0 (by decide) (by decide) (by decide)) flX7_73 rfl rfl rfl (by decide) dX7_standAlone_66 rfl ?_
    refine V_iload_n 70 2 rfl rfl dX7_standAlone_69 rfl ?_
    refine V_ialdN 71 27 6 m (D (18 + m)) (hD.1 m (by omega)) (by omega) (by decide) rfl (by decide) dX7_standAlone_70 rfl ?_
    refine V_iastN 72 16 8 4 (by omega) (by decide) rfl (by decide) dX7_standAlone_71 rfl ?_
    refine V_aload_n 73 0 rfl _ rfl rfl dX7_standAlone_72 rfl ?_
    refine V_getR 76 3 7 2 16 hR32 flX7_25 rfl rfl rfl (by decide) dX7_standAlone_73 rfl ?_
    refine V_iconst 77 (5) rfl dX7_standAlone_76 rfl ?_
    refine V_aload_n 78 1 rfl _ rfl rfl dX7_standAlone_77 rfl ?_
    refine V_getR 81 26 3 6 33 (hRK 26 6 (by decide) (by decide) (by decide)) flX7_76 rfl rfl rfl (by decide) dX7_standAlone_78 rfl ?_
    refine V_iload 83 4 rfl dX7_standAlone_81 rfl ?_
    refine V_ialdN 84 33 6 g (D (44 + g)) (hD.2.2.2.2.2.2.1 g (by omega)) (by omega) (by decide) rfl (by decide) dX7_standAlone_83 rfl ?_
    refine V_iastN 85 16 8 5 (by omega) (by decide) rfl (by decide) dX7_standAlone_84 rfl ?_
    refine V_aload_n 86 0 rfl _ rfl rfl dX7_standAlone_85 rfl ?_
    refine V_getR 89 3 7 2 16 hR32 flX7_25 rfl rfl rfl (by decide) dX7_standAlone_86 rfl ?_
    refine V_bipush 91 (6) rfl dX7_standAlone_89 rfl ?_
    refine V_iconst 92 (0) rfl dX7_standAlone_91 rfl ?_
    refine V_iastN 93 16 8 6 (by omega) (by decide) rfl (by decide) dX7_standAlone_92 rfl ?_
    refine V_aload_n 94 0 rfl _ rfl rfl dX7_standAlone_93 rfl ?_
    refine V_getR 97 3 7 2 16 hR32 flX7_25 rfl rfl rfl (by decide) dX7_standAlone_94 rfl ?_
    refine V_bipush 99 (7) rfl dX7_standAlone_97 rfl ?_
    refine V_aload_n 100 1 rfl _ rfl rfl dX7_standAlone_99 rfl ?_
    refine V_getI 103 26 3 7 (D 50) hD.2.2.2.2.2.2.2.1 flX7_79 rfl rfl rfl (by decide) dX7_standAlone_100 rfl ?_
    refine V_iastN 104 16 8 7 (by omega) (by decide) rfl (by decide) dX7_standAlone_103 rfl ?_
    refine V_ret_v rfl (Nat.le_refl _) (fun h => absurd h (by decide)) (Nat.le_refl _) (hq _ (fun a ha => by rw [up2_n _ _ _ ha, up2_n _ _ _ ha, up2_n _ _ _ ha, up2_n _ _ _ ha, up2_n _ _ _ ha, up2_n _ _ _ ha, up2_n _ _ _ ha, up2_n _ _ _ ha]) (fun k hk => by rcases (show k = 0 ∨ k = 1 ∨ k = 2 ∨ k = 3 ∨ k = 4 ∨ k = 5 ∨ k = 6 ∨ k = 7 by omega) with rfl | rfl | rfl | rfl | rfl | rfl | rfl | rfl <;> rfl)) dX7_standAlone_104
  · show V _ _ _ _ _ _ _ _ [(0, rf G 3), (1, rf G 18), (2, .int (nI m)), (3, .int (nI h)), (4, .int (nI g))] [] _ _ _ _ _
    refine V_aload_n 1 0 rfl _ rfl rfl dX7_standAlone_0 rfl ?_
    refine V_getR 4 3 7 2 16 hR32 flX7_25 rfl rfl rfl (by decide) dX7_standAlone_1 rfl ?_
    refine V_iconst 5 (0) rfl dX7_standAlone_4 rfl ?_
    refine V_aload_n 6 0 rfl _ rfl rfl dX7_standAlone_5 rfl ?_
    refine V_getR 9 3 7 0 51 hR3c flX7_12 rfl rfl rfl (by decide) dX7_standAlone_6 rfl ?_
    refine V_getR 12 51 2 0 52 (hRK 51 0 (by decide) (by decide) (by decide)) flX7_60 rfl rfl rfl (by decide) dX7_standAlone_9 rfl ?_
    refine V_iload_n 13 3 rfl rfl dX7_standAlone_12 rfl ?_
    refine V_ialdN 14 52 8 h (cHat K (2 * h)) (hC.2.2.2.1 h hh) (by omega) (by decide) rfl (by decide) dX7_standAlone_13 rfl ?_
    refine V_aload_n 15 1 rfl _ rfl rfl dX7_standAlone_14 rfl ?_
    refine V_getR 18 18 3 5 24 (hRK 18 5 (by decide) (by decide) (by decide)) flX7_63 rfl rfl rfl (by decide) dX7_standAlone_15 rfl ?_
    refine V_iload_n 19 3 rfl rfl dX7_standAlone_18 rfl ?_
    refine V_ialdN 20 24 8 h (D (36 + h)) (hD.2.2.2.2.2.1 h (by omega)) (by omega) (by decide) rfl (by decide) dX7_standAlone_19 rfl ?_
    refine V_iadd 21 dX7_standAlone_20 rfl ?_
    refine V_iastN 22 16 8 0 (by omega) (by decide) rfl (by decide) dX7_standAlone_21 rfl ?_
    refine V_aload_n 23 0 rfl _ rfl rfl dX7_standAlone_22 rfl ?_
    refine V_getR 26 3 7 2 16 hR32 flX7_25 rfl rfl rfl (by decide) dX7_standAlone_23 rfl ?_
    refine V_iconst 27 (1) rfl dX7_standAlone_26 rfl ?_
    refine V_aload_n 28 0 rfl _ rfl rfl dX7_standAlone_27 rfl ?_
    refine V_getR 31 3 7 0 51 hR3c flX7_12 rfl rfl rfl (by decide) dX7_standAlone_28 rfl ?_
    refine V_iload_n 32 3 rfl rfl dX7_standAlone_31 rfl ?_
    refine V_iload 34 4 rfl dX7_standAlone_32 rfl ?_
    refine V_callV (K' := 0) (S' := 0) 37 51 2 2 [.int (nI h), .int (nI g)] mkX2_angleOf lkX7_66 (by decide) rfl rfl (by decide) rfl (Nat.le_of_ble_eq_true rfl) (Nat.le_of_ble_eq_true rfl) (Nat.le_of_ble_eq_true rfl) (Nat.le_of_ble_eq_true rfl) rfl rfl dX7_standAlone_34 rfl (c_X2_angleOf hRK (Or.inr rfl) (hC.fr (fun a h1 h2 => up2_n _ _ _ (by omega))) hW0 hh hg ?_)
    refine Kq_i (k' := 0) (sl' := 0) rfl rfl ?_
    refine V_iastN 38 16 8 1 (by omega) (by decide) rfl (by decide) dX7_standAlone_37 rfl ?_
    refine V_aload_n 39 0 rfl _ rfl rfl dX7_standAlone_38 rfl ?_
    refine V_getR 42 3 7 2 16 hR32 flX7_25 rfl rfl rfl (by decide) dX7_standAlone_39 rfl ?_
    refine V_iconst 43 (2) rfl dX7_standAlone_42 rfl ?_
    refine V_iconst 44 (0) rfl dX7_standAlone_43 rfl ?_
    refine V_iastN 45 16 8 2 (by omega) (by decide) rfl (by decide) dX7_standAlone_44 rfl ?_
    refine V_aload_n 46 0 rfl _ rfl rfl dX7_standAlone_45 rfl ?_
    refine V_getR 49 3 7 2 16 hR32 flX7_25 rfl rfl rfl (by decide) dX7_standAlone_46 rfl ?_
    refine V_iconst 50 (3) rfl dX7_standAlone_49 rfl ?_
    refine V_aload_n 51 0 rfl _ rfl rfl dX7_standAlone_50 rfl ?_
    refine V_getR 54 3 7 0 51 hR3c flX7_12 rfl rfl rfl (by decide) dX7_standAlone_51 rfl ?_
    refine V_getR 57 51 2 4 56 (hRK 51 4 (by decide) (by decide) (by decide)) flX7_70 rfl rfl rfl (by decide) dX7_standAlone_54 rfl ?_
    refine V_iload_n 58 2 rfl rfl dX7_standAlone_57 rfl ?_
    refine V_ialdN 59 56 6 m (cBt K m) (hC.2.2.2.2.2.2.2.1 m hm) (by omega) (by decide) rfl (by decide) dX7_standAlone_58 rfl ?_
    refine V_iastN 60 16 8 3 (by omega) (by decide) rfl (by decide) dX7_standAlone_59 rfl ?_
    refine V_aload_n 61 0 rfl _ rfl rfl dX7_standAlone_60 rfl ?_
    refine V_getR 64 3 7 2 16 hR32 flX7_25 rfl rfl rfl (by decide) dX7_standAlone_61 rfl ?_
    refine V_iconst 65 (4) rfl dX7_standAlone_64 rfl ?_
    refine V_aload_n 66 1 rfl _ rfl rfl dX7_standAlone_65 rfl ?_
    refine V_getR 69 18 3 0 19 (hRK 18 0 (by decide) (by decide) (by decide)) flX7_73 rfl rfl rfl (by decide) dX7_standAlone_66 rfl ?_
    refine V_iload_n 70 2 rfl rfl dX7_standAlone_69 rfl ?_
    refine V_ialdN 71 19 6 m (D (18 + m)) (hD.1 m (by omega)) (by omega) (by decide) rfl (by decide) dX7_standAlone_70 rfl ?_
    refine V_iastN 72 16 8 4 (by omega) (by decide) rfl (by decide) dX7_standAlone_71 rfl ?_
    refine V_aload_n 73 0 rfl _ rfl rfl dX7_standAlone_72 rfl ?_
    refine V_getR 76 3 7 2 16 hR32 flX7_25 rfl rfl rfl (by decide) dX7_standAlone_73 rfl ?_
    refine V_iconst 77 (5) rfl dX7_standAlone_76 rfl ?_
    refine V_aload_n 78 1 rfl _ rfl rfl dX7_standAlone_77 rfl ?_
    refine V_getR 81 18 3 6 25 (hRK 18 6 (by decide) (by decide) (by decide)) flX7_76 rfl rfl rfl (by decide) dX7_standAlone_78 rfl ?_
    refine V_iload 83 4 rfl dX7_standAlone_81 rfl ?_
    refine V_ialdN 84 25 6 g (D (44 + g)) (hD.2.2.2.2.2.2.1 g (by omega)) (by omega) (by decide) rfl (by decide) dX7_standAlone_83 rfl ?_
    refine V_iastN 85 16 8 5 (by omega) (by decide) rfl (by decide) dX7_standAlone_84 rfl ?_
    refine V_aload_n 86 0 rfl _ rfl rfl dX7_standAlone_85 rfl ?_
    refine V_getR 89 3 7 2 16 hR32 flX7_25 rfl rfl rfl (by decide) dX7_standAlone_86 rfl ?_
    refine V_bipush 91 (6) rfl dX7_standAlone_89 rfl ?_
    refine V_iconst 92 (0) rfl dX7_standAlone_91 rfl ?_
    refine V_iastN 93 16 8 6 (by omega) (by decide) rfl (by decide) dX7_standAlone_92 rfl ?_
    refine V_aload_n 94 0 rfl _ rfl rfl dX7_standAlone_93 rfl ?_
    refine V_getR 97 3 7 2 16 hR32 flX7_25 rfl rfl rfl (by decide) dX7_standAlone_94 rfl ?_
    refine V_bipush 99 (7) rfl dX7_standAlone_97 rfl ?_
    refine V_aload_n 100 1 rfl _ rfl rfl dX7_standAlone_99 rfl ?_
    refine V_getI 103 18 3 7 (D 50) hD.2.2.2.2.2.2.2.1 flX7_79 rfl rfl rfl (by decide) dX7_standAlone_100 rfl ?_
    refine V_iastN 104 16 8 7 (by omega) (by decide) rfl (by decide) dX7_standAlone_103 rfl ?_
    refine V_ret_v rfl (Nat.le_refl _) (fun h => absurd h (by decide)) (Nat.le_refl _) (hq _ (fun a ha => by rw [up2_n _ _ _ ha, up2_n _ _ _ ha, up2_n _ _ _ ha, up2_n _ _ _ ha, up2_n _ _ _ ha, up2_n _ _ _ ha, up2_n _ _ _ ha, up2_n _ _ _ ha]) (fun k hk => by rcases (show k = 0 ∨ k = 1 ∨ k = 2 ∨ k = 3 ∨ k = 4 ∨ k = 5 ∨ k = 6 ∨ k = 7 by omega) with rfl | rfl | rfl | rfl | rfl | rfl | rfl | rfl <;> rfl)) dX7_standAlone_104
  · show V _ _ _ _ _ _ _ _ [(0, rf G 3), (1, rf G 26), (2, .int (nI m)), (3, .int (nI h)), (4, .int (nI g))] [] _ _ _ _ _
    refine V_aload_n 1 0 rfl _ rfl rfl dX7_standAlone_0 rfl ?_
    refine V_getR 4 3 7 2 16 hR32 flX7_25 rfl rfl rfl (by decide) dX7_standAlone_1 rfl ?_
    refine V_iconst 5 (0) rfl dX7_standAlone_4 rfl ?_
    refine V_aload_n 6 0 rfl _ rfl rfl dX7_standAlone_5 rfl ?_
    refine V_getR 9 3 7 0 51 hR3c flX7_12 rfl rfl rfl (by decide) dX7_standAlone_6 rfl ?_
    refine V_getR 12 51 2 0 52 (hRK 51 0 (by decide) (by decide) (by decide)) flX7_60 rfl rfl rfl (by decide) dX7_standAlone_9 rfl ?_
    refine V_iload_n 13 3 rfl rfl dX7_standAlone_12 rfl ?_
    refine V_ialdN 14 52 8 h (cHat K (2 * h)) (hC.2.2.2.1 h hh) (by omega) (by decide) rfl (by decide) dX7_standAlone_13 rfl ?_
    refine V_aload_n 15 1 rfl _ rfl rfl dX7_standAlone_14 rfl ?_
    refine V_getR 18 26 3 5 32 (hRK 26 5 (by decide) (by decide) (by decide)) flX7_63 rfl rfl rfl (by decide) dX7_standAlone_15 rfl ?_
    refine V_iload_n 19 3 rfl rfl dX7_standAlone_18 rfl ?_
    refine V_ialdN 20 32 8 h (D (36 + h)) (hD.2.2.2.2.2.1 h (by omega)) (by omega) (by decide) rfl (by decide) dX7_standAlone_19 rfl ?_
    refine V_iadd 21 dX7_standAlone_20 rfl ?_
    refine V_iastN 22 16 8 0 (by omega) (by decide) rfl (by decide) dX7_standAlone_21 rfl ?_
    refine V_aload_n 23 0 rfl _ rfl rfl dX7_standAlone_22 rfl ?_
    refine V_getR 26 3 7 2 16 hR32 flX7_25 rfl rfl rfl (by decide) dX7_standAlone_23 rfl ?_
    refine V_iconst 27 (1) rfl dX7_standAlone_26 rfl ?_
    refine V_aload_n 28 0 rfl _ rfl rfl dX7_standAlone_27 rfl ?_
    refine V_getR 31 3 7 0 51 hR3c flX7_12 rfl rfl rfl (by decide) dX7_standAlone_28 rfl ?_
    refine V_iload_n 32 3 rfl rfl dX7_standAlone_31 rfl ?_
    refine V_iload 34 4 rfl dX7_standAlone_32 rfl ?_
    refine V_callV (K' := 0) (S' := 0) 37 51 2 2 [.int (nI h), .int (nI g)] mkX2_angleOf lkX7_66 (by decide) rfl rfl (by decide) rfl (Nat.le_of_ble_eq_true rfl) (Nat.le_of_ble_eq_true rfl) (Nat.le_of_ble_eq_true rfl) (Nat.le_of_ble_eq_true rfl) rfl rfl dX7_standAlone_34 rfl (c_X2_angleOf hRK (Or.inr rfl) (hC.fr (fun a h1 h2 => up2_n _ _ _ (by omega))) hW0 hh hg ?_)
    refine Kq_i (k' := 0) (sl' := 0) rfl rfl ?_
    refine V_iastN 38 16 8 1 (by omega) (by decide) rfl (by decide) dX7_standAlone_37 rfl ?_
    refine V_aload_n 39 0 rfl _ rfl rfl dX7_standAlone_38 rfl ?_
    refine V_getR 42 3 7 2 16 hR32 flX7_25 rfl rfl rfl (by decide) dX7_standAlone_39 rfl ?_
    refine V_iconst 43 (2) rfl dX7_standAlone_42 rfl ?_
    refine V_iconst 44 (0) rfl dX7_standAlone_43 rfl ?_
    refine V_iastN 45 16 8 2 (by omega) (by decide) rfl (by decide) dX7_standAlone_44 rfl ?_
    refine V_aload_n 46 0 rfl _ rfl rfl dX7_standAlone_45 rfl ?_
    refine V_getR 49 3 7 2 16 hR32 flX7_25 rfl rfl rfl (by decide) dX7_standAlone_46 rfl ?_
    refine V_iconst 50 (3) rfl dX7_standAlone_49 rfl ?_
    refine V_aload_n 51 0 rfl _ rfl rfl dX7_standAlone_50 rfl ?_
    refine V_getR 54 3 7 0 51 hR3c flX7_12 rfl rfl rfl (by decide) dX7_standAlone_51 rfl ?_
    refine V_getR 57 51 2 4 56 (hRK 51 4 (by decide) (by decide) (by decide)) flX7_70 rfl rfl rfl (by decide) dX7_standAlone_54 rfl ?_
    refine V_iload_n 58 2 rfl rfl dX7_standAlone_57 rfl ?_
    refine V_ialdN 59 56 6 m (cBt K m) (hC.2.2.2.2.2.2.2.1 m hm) (by omega) (by decide) rfl (by decide) dX7_standAlone_58 rfl ?_
    refine V_iastN 60 16 8 3 (by omega) (by decide) rfl (by decide) dX7_standAlone_59 rfl ?_
    refine V_aload_n 61 0 rfl _ rfl rfl dX7_standAlone_60 rfl ?_
    refine V_getR 64 3 7 2 16 hR32 flX7_25 rfl rfl rfl (by decide) dX7_standAlone_61 rfl ?_
    refine V_iconst 65 (4) rfl dX7_standAlone_64 rfl ?_
    refine V_aload_n 66 1 rfl _ rfl rfl dX7_standAlone_65 rfl ?_
    refine V_getR 69 26 3 0 27 (hRK 26 0 (by decide) (by decide) (by decide)) flX7_73 rfl rfl rfl (by decide) dX7_standAlone_66 rfl ?_
    refine V_iload_n 70 2 rfl rfl dX7_standAlone_69 rfl ?_
    refine V_ialdN 71 27 6 m (D (18 + m)) (hD.1 m (by omega)) (by omega) (by decide) rfl (by decide) dX7_standAlone_70 rfl ?_
    refine V_iastN 72 16 8 4 (by omega) (by decide) rfl (by decide) dX7_standAlone_71 rfl ?_
    refine V_aload_n 73 0 rfl _ rfl rfl dX7_standAlone_72 rfl ?_
    refine V_getR 76 3 7 2 16 hR32 flX7_25 rfl rfl rfl (by decide) dX7_standAlone_73 rfl ?_
    refine V_iconst 77 (5) rfl dX7_standAlone_76 rfl ?_
    refine V_aload_n 78 1 rfl _ rfl rfl dX7_standAlone_77 rfl ?_
    refine V_getR 81 26 3 6 33 (hRK 26 6 (by decide) (by decide) (by decide)) flX7_76 rfl rfl rfl (by decide) dX7_standAlone_78 rfl ?_
    refine V_iload 83 4 rfl dX7_standAlone_81 rfl ?_
    refine V_ialdN 84 33 6 g (D (44 + g)) (hD.2.2.2.2.2.2.1 g (by omega)) (by omega) (by decide) rfl (by decide) dX7_standAlone_83 rfl ?_
    refine V_iastN 85 16 8 5 (by omega) (by decide) rfl (by decide) dX7_standAlone_84 rfl ?_
    refine V_aload_n 86 0 rfl _ rfl rfl dX7_standAlone_85 rfl ?_
    refine V_getR 89 3 7 2 16 hR32 flX7_25 rfl rfl rfl (by decide) dX7_standAlone_86 rfl ?_
    refine V_bipush 91 (6) rfl dX7_standAlone_89 rfl ?_
    refine V_iconst 92 (0) rfl dX7_standAlone_91 rfl ?_
    refine V_iastN 93 16 8 6 (by omega) (by decide) rfl (by decide) dX7_standAlone_92 rfl ?_
    refine V_aload_n 94 0 rfl _ rfl rfl dX7_standAlone_93 rfl ?_
    refine V_getR 97 3 7 2 16 hR32 flX7_25 rfl rfl rfl (by decide) dX7_standAlone_94 rfl ?_
    refine V_bipush 99 (7) rfl dX7_standAlone_97 rfl ?_
    refine V_aload_n 100 1 rfl _ rfl rfl dX7_standAlone_99 rfl ?_
    refine V_getI 103 26 3 7 (D 50) hD.2.2.2.2.2.2.2.1 flX7_79 rfl rfl rfl (by decide) dX7_standAlone_100 rfl ?_
    refine V_iastN 104 16 8 7 (by omega) (by decide) rfl (by decide) dX7_standAlone_103 rfl ?_
    refine V_ret_v rfl (Nat.le_refl _) (fun h => absurd h (by decide)) (Nat.le_refl _) (hq _ (fun a ha => by rw [up2_n _ _ _ ha, up2_n _ _ _ ha, up2_n _ _ _ ha, up2_n _ _ _ ha, up2_n _ _ _ ha, up2_n _ _ _ ha, up2_n _ _ _ ha, up2_n _ _ _ ha]) (fun k hk => by rcases (show k = 0 ∨ k = 1 ∨ k = 2 ∨ k = 3 ∨ k = 4 ∨ k = 5 ∨ k = 6 ∨ k = 7 by omega) with rfl | rfl | rfl | rfl | rfl | rfl | rfl | rfl <;> rfl)) dX7_standAlone_104
set_option maxHeartbeats 4000000 in
theorem c_X7_nextSea {G : Gx} {d : Nat} {I : FI} {R : FR} {J : FJ} {Q : Po} (hRK : RK R) {l : Nat} (hR3l : R 3 1 = some l) (hR32 : R 3 2 = some 16) {f : DV → Int32} (hl : l = 11 ∨ l = 58) (hL : LawC I l f) {F : DV} (hF : ∀ k, k < 8 → I 16 k = F k) (hq : ∀ I', (∀ a, a ≠ 16 → a ≠ l + 4 → I' a = I a) → (∀ k, k < 8 → I' 16 k = upd (upd (upd F 2 (F 2 + 1)) 7 (F 7 + 1)) 4 (F 4 + f F) k) → Q (.inl (some (.int (f F)))) 103 I' R J) : Cc G mX7_nextSea (d + 1 + 1) 0 0 [rf G 3] 103 I R J Q := by
  have e1 : f (I 16) = f F := hL.ext _ _ hF
  have hl0 := hl
  rcases hl with rfl | rfl
  · show V _ _ _ _ _ _ _ _ [(0, rf G 3)] [] _ _ _ _ _
    refine V_aload_n 1 0 rfl _ rfl rfl dX7_nextSea_0 rfl ?_
    refine V_getR 4 3 7 1 11 hR3l flX7_21 rfl rfl rfl (by decide) dX7_nextSea_1 rfl ?_
    refine V_aload_n 5 0 rfl _ rfl rfl dX7_nextSea_4 rfl ?_
    refine V_getR 8 3 7 2 16 hR32 flX7_25 rfl rfl rfl (by decide) dX7_nextSea_5 rfl ?_
    refine V_callV (K' := 0) (S' := 0) 11 11 5 1 [rf G 16] mkX5_seaBy lkX7_56 (by decide) rfl rfl (by decide) rfl (Nat.le_of_ble_eq_true rfl) (Nat.le_of_ble_eq_true rfl) (Nat.le_of_ble_eq_true rfl) (Nat.le_of_ble_eq_true rfl) rfl rfl dX7_nextSea_8 rfl (c_X5_seaBy hRK hl0 hL (fun I1 hI1 => ?_))
    rw [e1]
    refine Kq_i (k' := 0) (sl' := 0) rfl rfl ?_
    have i16 : ∀ k, k < 8 → I1 16 k = F k := fun k hk => by rw [hI1 16 (by decide)]; exact hF k hk
    refine V_istore_n 12 [(1, .int (f F)), (0, rf G 3)] (by decide) rfl rfl dX7_nextSea_11 rfl ?_
    refine V_aload_n 13 1 rfl _ rfl rfl dX7_nextSea_12 rfl ?_
    refine V_getR 16 3 7 2 16 hR32 flX7_25 rfl rfl rfl (by decide) dX7_nextSea_13 rfl ?_
    refine V_iconst 17 (2) rfl dX7_nextSea_16 rfl ?_
    refine V_dup2 18 rfl rfl dX7_nextSea_17 rfl ?_
    refine V_ialdN 19 16 8 2 (F 2) (i16 2 (by decide)) (by omega) (by decide) rfl (by decide) dX7_nextSea_18 rfl ?_
    refine V_iconst 20 (1) rfl dX7_nextSea_19 rfl ?_
    refine V_iadd 21 dX7_nextSea_20 rfl ?_
    refine V_iastN 22 16 8 2 (by omega) (by decide) rfl (by decide) dX7_nextSea_21 rfl ?_
    refine V_aload_n 23 1 rfl _ rfl rfl dX7_nextSea_22 rfl ?_
    refine V_getR 26 3 7 2 16 hR32 flX7_25 rfl rfl rfl (by decide) dX7_nextSea_23 rfl ?_
    refine V_bipush 28 (7) rfl dX7_nextSea_26 rfl ?_
    refine V_dup2 29 rfl rfl dX7_nextSea_28 rfl ?_
    refine V_ialdN 30 16 8 7 (F 7) (i16 7 (by decide)) (by omega) (by decide) rfl (by decide) dX7_nextSea_29 rfl ?_
    refine V_iconst 31 (1) rfl dX7_nextSea_30 rfl ?_
    refine V_iadd 32 dX7_nextSea_31 rfl ?_
    refine V_iastN 33 16 8 7 (by omega) (by decide) rfl (by decide) dX7_nextSea_32 rfl ?_
    refine V_aload_n 34 1 rfl _ rfl rfl dX7_nextSea_33 rfl ?_
    refine V_getR 37 3 7 2 16 hR32 flX7_25 rfl rfl rfl (by decide) dX7_nextSea_34 rfl ?_
    refine V_iconst 38 (4) rfl dX7_nextSea_37 rfl ?_
    refine V_dup2 39 rfl rfl dX7_nextSea_38 rfl ?_
    refine V_ialdN 40 16 8 4 (F 4) (i16 4 (by decide)) (by omega) (by decide) rfl (by decide) dX7_nextSea_39 rfl ?_
    refine V_iload_n 41 0 rfl rfl dX7_nextSea_40 rfl ?_
    refine V_iadd 42 dX7_nextSea_41 rfl ?_
    refine V_iastN 43 16 8 4 (by omega) (by decide) rfl (by decide) dX7_nextSea_42 rfl ?_
    refine V_iload_n 44 0 rfl rfl dX7_nextSea_43 rfl ?_
    refine V_ret_i rfl rfl (Nat.le_refl _) (fun h => absurd h (by decide)) (Nat.le_refl _) (hq _ (fun a h1 h2 => by rw [up2_n _ _ _ h1, up2_n _ _ _ h1, up2_n _ _ _ h1]; exact hI1 a h2) (fun k hk => by rw [up2_s, up2_s, up2_s]; simp only [upd]; rw [i16 k hk])) dX7_nextSea_44
  · show V _ _ _ _ _ _ _ _ [(0, rf G 3)] [] _ _ _ _ _
    refine V_aload_n 1 0 rfl _ rfl rfl dX7_nextSea_0 rfl ?_
    refine V_getR 4 3 7 1 58 hR3l flX7_21 rfl rfl rfl (by decide) dX7_nextSea_1 rfl ?_
    refine V_aload_n 5 0 rfl _ rfl rfl dX7_nextSea_4 rfl ?_
    refine V_getR 8 3 7 2 16 hR32 flX7_25 rfl rfl rfl (by decide) dX7_nextSea_5 rfl ?_
    refine V_callV (K' := 0) (S' := 0) 11 58 5 1 [rf G 16] mkX5_seaBy lkX7_56 (by decide) rfl rfl (by decide) rfl (Nat.le_of_ble_eq_true rfl) (Nat.le_of_ble_eq_true rfl) (Nat.le_of_ble_eq_true rfl) (Nat.le_of_ble_eq_true rfl) rfl rfl dX7_nextSea_8 rfl (c_X5_seaBy hRK hl0 hL (fun I1 hI1 => ?_))
    rw [e1]
    refine Kq_i (k' := 0) (sl' := 0) rfl rfl ?_
    have i16 : ∀ k, k < 8 → I1 16 k = F k := fun k hk => by rw [hI1 16 (by decide)]; exact hF k hk
    refine V_istore_n 12 [(1, .int (f F)), (0, rf G 3)] (by decide) rfl rfl dX7_nextSea_11 rfl ?_
    refine V_aload_n 13 1 rfl _ rfl rfl dX7_nextSea_12 rfl ?_
    refine V_getR 16 3 7 2 16 hR32 flX7_25 rfl rfl rfl (by decide) dX7_nextSea_13 rfl ?_
    refine V_iconst 17 (2) rfl dX7_nextSea_16 rfl ?_
    refine V_dup2 18 rfl rfl dX7_nextSea_17 rfl ?_
    refine V_ialdN 19 16 8 2 (F 2) (i16 2 (by decide)) (by omega) (by decide) rfl (by decide) dX7_nextSea_18 rfl ?_
    refine V_iconst 20 (1) rfl dX7_nextSea_19 rfl ?_
    refine V_iadd 21 dX7_nextSea_20 rfl ?_
    refine V_iastN 22 16 8 2 (by omega) (by decide) rfl (by decide) dX7_nextSea_21 rfl ?_
    refine V_aload_n 23 1 rfl _ rfl rfl dX7_nextSea_22 rfl ?_
    refine V_getR 26 3 7 2 16 hR32 flX7_25 rfl rfl rfl (by decide) dX7_nextSea_23 rfl ?_
    refine V_bipush 28 (7) rfl dX7_nextSea_26 rfl ?_
    refine V_dup2 29 rfl rfl dX7_nextSea_28 rfl ?_
    refine V_ialdN 30 16 8 7 (F 7) (i16 7 (by decide)) (by omega) (by decide) rfl (by decide) dX7_nextSea_29 rfl ?_
    refine V_iconst 31 (1) rfl dX7_nextSea_30 rfl ?_
    refine V_iadd 32 dX7_nextSea_31 rfl ?_
    refine V_iastN 33 16 8 7 (by omega) (by decide) rfl (by decide) dX7_nextSea_32 rfl ?_
    refine V_aload_n 34 1 rfl _ rfl rfl dX7_nextSea_33 rfl ?_
    refine V_getR 37 3 7 2 16 hR32 flX7_25 rfl rfl rfl (by decide) dX7_nextSea_34 rfl ?_
    refine V_iconst 38 (4) rfl dX7_nextSea_37 rfl ?_
    refine V_dup2 39 rfl rfl dX7_nextSea_38 rfl ?_
    refine V_ialdN 40 16 8 4 (F 4) (i16 4 (by decide)) (by omega) (by decide) rfl (by decide) dX7_nextSea_39 rfl ?_
    refine V_iload_n 41 0 rfl rfl dX7_nextSea_40 rfl ?_
    refine V_iadd 42 dX7_nextSea_41 rfl ?_
    refine V_iastN 43 16 8 4 (by omega) (by decide) rfl (by decide) dX7_nextSea_42 rfl ?_
    refine V_iload_n 44 0 rfl rfl dX7_nextSea_43 rfl ?_
    refine V_ret_i rfl rfl (Nat.le_refl _) (fun h => absurd h (by decide)) (Nat.le_refl _) (hq _ (fun a h1 h2 => by rw [up2_n _ _ _ h1, up2_n _ _ _ h1, up2_n _ _ _ h1]; exact hI1 a h2) (fun k hk => by rw [up2_s, up2_s, up2_s]; simp only [upd]; rw [i16 k hk])) dX7_nextSea_44
set_option maxHeartbeats 4000000 in
theorem c_X7_seaOf {G : Gx} {d : Nat} {I : FI} {R : FR} {J : FJ} {Q : Po} (hRK : RK R) {c l o : Nat} (hR3c : R 3 0 = some c) (hR3l : R 3 1 = some l) (hR32 : R 3 2 = some 16) (hR33 : R 3 3 = some 17) {K : CO} {D : DV} (hc : c = 4 ∨ c = 51) {f : DV → Int32} (ho : o = 18 ∨ o = 26) (hl : l = 11 ∨ l = 58) (hC : CoastC I c K) (hW : WK K) (hD : DayC I o D) (hWD : WD K D) (hL : LawC I l f) {m : Nat} (hm : m < cM K) (hq : ∀ I', (∀ a, a ≠ 16 → a ≠ l + 4 → I' a = I a) → Q (.inl (some (.int (seaD K f D m)))) 103 I' R J) : Cc G mX7_seaOf (d + 1 + 1) 0 0 [rf G 3, rf G o, .int (nI m)] 103 I R J Q := by
  have hm6 : m < 6 := by have := hW.2.2.1; omega
  have hc0 := hc; have ho0 := ho; have hl0 := hl
  rcases hWD.2.2 m hm6 with e1 | ⟨g, hg, e1⟩
  · have e3 : seaD K f D m = 0 := by unfold seaD; rw [e1]; rfl
    rw [e3] at hq
    rcases hc with rfl | rfl <;> rcases ho with rfl | rfl <;> rcases hl with rfl | rfl
    · show V _ _ _ _ _ _ _ _ [(0, rf G 3), (1, rf G 18), (2, .int (nI m))] [] _ _ _ _ _
      refine V_aload_n 1 1 rfl _ rfl rfl dX7_seaOf_0 rfl ?_
      refine V_getR 4 18 3 2 21 (hRK 18 2 (by decide) (by decide) (by decide)) flX7_32 rfl rfl rfl (by decide) dX7_seaOf_1 rfl ?_
      refine V_iload_n 5 2 rfl rfl dX7_seaOf_4 rfl ?_
      refine V_ialdN 6 21 6 m (-1) ((hD.2.2.1 m hm6).trans e1) (by omega) (by decide) rfl (by decide) dX7_seaOf_5 rfl ?_
      refine V_istore_n 7 [(3, .int (-1)), (0, rf G 3), (1, rf G 18), (2, .int (nI m))] (by decide) rfl rfl dX7_seaOf_6 rfl ?_
      refine V_aload_n 8 2 rfl _ rfl rfl dX7_seaOf_7 rfl ?_
      refine V_getR 11 18 3 1 20 (hRK 18 1 (by decide) (by decide) (by decide)) flX7_37 rfl rfl rfl (by decide) dX7_seaOf_8 rfl ?_
      refine V_iload_n 12 3 rfl rfl dX7_seaOf_11 rfl ?_
      refine V_ialdN 13 20 6 m (D m) (hD.2.1 m hm6) (by omega) (by decide) rfl (by decide) dX7_seaOf_12 rfl ?_
      refine V_istore 15 [(4, .int (D m)), (3, .int (-1)), (0, rf G 3), (1, rf G 18), (2, .int (nI m))] (by decide) rfl dX7_seaOf_13 rfl ?_
      refine V_iload_n 16 1 rfl rfl dX7_seaOf_15 rfl ?_
      refine V_iconst 17 (-1) rfl dX7_seaOf_16 rfl ?_
      refine V_icmp_eq 26 20 rfl dX7_seaOf_17 rfl (fun c17 => ?_) (fun c17 => absurd c17 (by decide))
      refine V_iconst 27 (0) rfl dX7_seaOf_26 rfl ?_
      refine V_ret_i rfl rfl (Nat.le_refl _) (fun h => absurd h (by decide)) (Nat.le_refl _) (hq _ (fun _ _ _ => rfl)) dX7_seaOf_27
    · show V _ _ _ _ _ _ _ _ [(0, rf G 3), (1, rf G 18), (2, .int (nI m))] [] _ _ _ _ _
      refine V_aload_n 1 1 rfl _ rfl rfl dX7_seaOf_0 rfl ?_
      refine V_getR 4 18 3 2 21 (hRK 18 2 (by decide) (by decide) (by decide)) flX7_32 rfl rfl rfl (by decide) dX7_seaOf_1 rfl ?_
      refine V_iload_n 5 2 rfl rfl dX7_seaOf_4 rfl ?_
      refine V_ialdN 6 21 6 m (-1) ((hD.2.2.1 m hm6).trans e1) (by omega) (by decide) rfl (by decide) dX7_seaOf_5 rfl ?_
      refine V_istore_n 7 [(3, .int (-1)), (0, rf G 3), (1, rf G 18), (2, .int (nI m))] (by decide) rfl rfl dX7_seaOf_6 rfl ?_
      refine V_aload_n 8 2 rfl _ rfl rfl dX7_seaOf_7 rfl ?_
      refine V_getR 11 18 3 1 20 (hRK 18 1 (by decide) (by decide) (by decide)) flX7_37 rfl rfl rfl (by decide) dX7_seaOf_8 rfl ?_
      refine V_iload_n 12 3 rfl rfl dX7_seaOf_11 rfl ?_
      refine V_ialdN 13 20 6 m (D m) (hD.2.1 m hm6) (by omega) (by decide) rfl (by decide) dX7_seaOf_12 rfl ?_
      refine V_istore 15 [(4, .int (D m)), (3, .int (-1)), (0, rf G 3), (1, rf G 18), (2, .int (nI m))] (by decide) rfl dX7_seaOf_13 rfl ?_
      refine V_iload_n 16 1 rfl rfl dX7_seaOf_15 rfl ?_
      refine V_iconst 17 (-1) rfl dX7_seaOf_16 rfl ?_
      refine V_icmp_eq 26 20 rfl dX7_seaOf_17 rfl (fun c17 => ?_) (fun c17 => absurd c17 (by decide))
      refine V_iconst 27 (0) rfl dX7_seaOf_26 rfl ?_
      refine V_ret_i rfl rfl (Nat.le_refl _) (fun h => absurd h (by decide)) (Nat.le_refl _) (hq _ (fun _ _ _ => rfl)) dX7_seaOf_27
    · show V _ _ _ _ _ _ _ _ [(0, rf G 3), (1, rf G 26), (2, .int (nI m))] [] _ _ _ _ _
      refine V_aload_n 1 1 rfl _ rfl rfl dX7_seaOf_0 rfl ?_
      refine V_getR 4 26 3 2 29 (hRK 26 2 (by decide) (by decide) (by decide)) flX7_32 rfl rfl rfl (by decide) dX7_seaOf_1 rfl ?_
      refine V_iload_n 5 2 rfl rfl dX7_seaOf_4 rfl ?_
      refine V_ialdN 6 29 6 m (-1) ((hD.2.2.1 m hm6).trans e1) (by omega) (by decide) rfl (by decide) dX7_seaOf_5 rfl ?_
      refine V_istore_n 7 [(3, .int (-1)), (0, rf G 3), (1, rf G 26), (2, .int (nI m))] (by decide) rfl rfl dX7_seaOf_6 rfl ?_
      refine V_aload_n 8 2 rfl _ rfl rfl dX7_seaOf_7 rfl ?_
      refine V_getR 11 26 3 1 28 (hRK 26 1 (by decide) (by decide) (by decide)) flX7_37 rfl rfl rfl (by decide) dX7_seaOf_8 rfl ?_
      refine V_iload_n 12 3 rfl rfl dX7_seaOf_11 rfl ?_
      refine V_ialdN 13 28 6 m (D m) (hD.2.1 m hm6) (by omega) (by decide) rfl (by decide) dX7_seaOf_12 rfl ?_
      refine V_istore 15 [(4, .int (D m)), (3, .int (-1)), (0, rf G 3), (1, rf G 26), (2, .int (nI m))] (by decide) rfl dX7_seaOf_13 rfl ?_
      refine V_iload_n 16 1 rfl rfl dX7_seaOf_15 rfl ?_
      refine V_iconst 17 (-1) rfl dX7_seaOf_16 rfl ?_
      refine V_icmp_eq 26 20 rfl dX7_seaOf_17 rfl (fun c17 => ?_) (fun c17 => absurd c17 (by decide))
      refine V_iconst 27 (0) rfl dX7_seaOf_26 rfl ?_
      refine V_ret_i rfl rfl (Nat.le_refl _) (fun h => absurd h (by decide)) (Nat.le_refl _) (hq _ (fun _ _ _ => rfl)) dX7_seaOf_27
    · show V _ _ _ _ _ _ _ _ [(0, rf G 3), (1, rf G 26), (2, .int (nI m))] [] _ _ _ _ _
      refine V_aload_n 1 1 rfl _ rfl rfl dX7_seaOf_0 rfl ?_
      refine V_getR 4 26 3 2 29 (hRK 26 2 (by decide) (by decide) (by decide)) flX7_32 rfl rfl rfl (by decide) dX7_seaOf_1 rfl ?_
      refine V_iload_n 5 2 rfl rfl dX7_seaOf_4 rfl ?_
      refine V_ialdN 6 29 6 m (-1) ((hD.2.2.1 m hm6).trans e1) (by omega) (by decide) rfl (by decide) dX7_seaOf_5 rfl ?_
      refine V_istore_n 7 [(3, .int (-1)), (0, rf G 3), (1, rf G 26), (2, .int (nI m))] (by decide) rfl rfl dX7_seaOf_6 rfl ?_
      refine V_aload_n 8 2 rfl _ rfl rfl dX7_seaOf_7 rfl ?_
      refine V_getR 11 26 3 1 28 (hRK 26 1 (by decide) (by decide) (by decide)) flX7_37 rfl rfl rfl (by decide) dX7_seaOf_8 rfl ?_
      refine V_iload_n 12 3 rfl rfl dX7_seaOf_11 rfl ?_
      refine V_ialdN 13 28 6 m (D m) (hD.2.1 m hm6) (by omega) (by decide) rfl (by decide) dX7_seaOf_12 rfl ?_
      refine V_istore 15 [(4, .int (D m)), (3, .int (-1)), (0, rf G 3), (1, rf G 26), (2, .int (nI m))] (by decide) rfl dX7_seaOf_13 rfl ?_
      refine V_iload_n 16 1 rfl rfl dX7_seaOf_15 rfl ?_
      refine V_iconst 17 (-1) rfl dX7_seaOf_16 rfl ?_
      refine V_icmp_eq 26 20 rfl dX7_seaOf_17 rfl (fun c17 => ?_) (fun c17 => absurd c17 (by decide))
      refine V_iconst 27 (0) rfl dX7_seaOf_26 rfl ?_
      refine V_ret_i rfl rfl (Nat.le_refl _) (fun h => absurd h (by decide)) (Nat.le_refl _) (hq _ (fun _ _ _ => rfl)) dX7_seaOf_27
    · show V _ _ _ _ _ _ _ _ [(0, rf G 3), (1, rf G 18), (2, .int (nI m))] [] _ _ _ _ _
      refine V_aload_n 1 1 rfl _ rfl rfl dX7_seaOf_0 rfl ?_
      refine V_getR 4 18 3 2 21 (hRK 18 2 (by decide) (by decide) (by decide)) flX7_32 rfl rfl rfl (by decide) dX7_seaOf_1 rfl ?_
      refine V_iload_n 5 2 rfl rfl dX7_seaOf_4 rfl ?_
      refine V_ialdN 6 21 6 m (-1) ((hD.2.2.1 m hm6).trans e1) (by omega) (by decide) rfl (by decide) dX7_seaOf_5 rfl ?_
      refine V_istore_n 7 [(3, .int (-1)), (0, rf G 3), (1, rf G 18), (2, .int (nI m))] (by decide) rfl rfl dX7_seaOf_6 rfl ?_
      refine V_aload_n 8 2 rfl _ rfl rfl dX7_seaOf_7 rfl ?_
      refine V_getR 11 18 3 1 20 (hRK 18 1 (by decide) (by decide) (by decide)) flX7_37 rfl rfl rfl (by decide) dX7_seaOf_8 rfl ?_
      refine V_iload_n 12 3 rfl rfl dX7_seaOf_11 rfl ?_
      refine V_ialdN 13 20 6 m (D m) (hD.2.1 m hm6) (by omega) (by decide) rfl (by decide) dX7_seaOf_12 rfl ?_
      refine V_istore 15 [(4, .int (D m)), (3, .int (-1)), (0, rf G 3), (1, rf G 18), (2, .int (nI m))] (by decide) rfl dX7_seaOf_13 rfl ?_
      refine V_iload_n 16 1 rfl rfl dX7_seaOf_15 rfl ?_
      refine V_iconst 17 (-1) rfl dX7_seaOf_16 rfl ?_
      refine V_icmp_eq 26 20 rfl dX7_seaOf_17 rfl (fun c17 => ?_) (fun c17 => absurd c17 (by decide))
      refine V_iconst 27 (0) rfl dX7_seaOf_26 rfl ?_
      refine V_ret_i rfl rfl (Nat.le_refl _) (fun h => absurd h (by decide)) (Nat.le_refl _) (hq _ (fun _ _ _ => rfl)) dX7_seaOf_27
    · show V _ _ _ _ _ _ _ _ [(0, rf G 3), (1, rf G 18), (2, .int (nI m))] [] _ _ _ _ _
      refine V_aload_n 1 1 rfl _ rfl rfl dX7_seaOf_0 rfl ?_
      refine V_getR 4 18 3 2 21 (hRK 18 2 (by decide) (by decide) (by decide)) flX7_32 rfl rfl rfl (by decide) dX7_seaOf_1 rfl ?_
      refine V_iload_n 5 2 rfl rfl dX7_seaOf_4 rfl ?_
      refine V_ialdN 6 21 6 m (-1) ((hD.2.2.1 m hm6).trans e1) (by omega) (by decide) rfl (by decide) dX7_seaOf_5 rfl ?_
      refine V_istore_n 7 [(3, .int (-1)), (0, rf G 3), (1, rf G 18), (2, .int (nI m))] (by decide) rfl rfl dX7_seaOf_6 rfl ?_
      refine V_aload_n 8 2 rfl _ rfl rfl dX7_seaOf_7 rfl ?_
      refine V_getR 11 18 3 1 20 (hRK 18 1 (by decide) (by decide) (by decide)) flX7_37 rfl rfl rfl (by decide) dX7_seaOf_8 rfl ?_
      refine V_iload_n 12 3 rfl rfl dX7_seaOf_11 rfl ?_
      refine V_ialdN 13 20 6 m (D m) (hD.2.1 m hm6) (by omega) (by decide) rfl (by decide) dX7_seaOf_12 rfl ?_
      refine V_istore 15 [(4, .int (D m)), (3, .int (-1)), (0, rf G 3), (1, rf G 18), (2, .int (nI m))] (by decide) rfl dX7_seaOf_13 rfl ?_
      refine V_iload_n 16 1 rfl rfl dX7_seaOf_15 rfl ?_
      refine V_iconst 17 (-1) rfl dX7_seaOf_16 rfl ?_
      refine V_icmp_eq 26 20 rfl dX7_seaOf_17 rfl (fun c17 => ?_) (fun c17 => absurd c17 (by decide))
      refine V_iconst 27 (0) rfl dX7_seaOf_26 rfl ?_
      refine V_ret_i rfl rfl (Nat.le_refl _) (fun h => absurd h (by decide)) (Nat.le_refl _) (hq _ (fun _ _ _ => rfl)) dX7_seaOf_27
    · show V _ _ _ _ _ _ _ _ [(0, rf G 3), (1, rf G 26), (2, .int (nI m))] [] _ _ _ _ _
      refine V_aload_n 1 1 rfl _ rfl rfl dX7_seaOf_0 rfl ?_
      refine V_getR 4 26 3 2 29 (hRK 26 2 (by decide) (by decide) (by decide)) flX7_32 rfl rfl rfl (by decide) dX7_seaOf_1 rfl ?_
      refine V_iload_n 5 2 rfl rfl dX7_seaOf_4 rfl ?_
      refine V_ialdN 6 29 6 m (-1) ((hD.2.2.1 m hm6).trans e1) (by omega) (by decide) rfl (by decide) dX7_seaOf_5 rfl ?_
      refine V_istore_n 7 [(3, .int (-1)), (0, rf G 3), (1, rf G 26), (2, .int (nI m))] (by decide) rfl rfl dX7_seaOf_6 rfl ?_
      refine V_aload_n 8 2 rfl _ rfl rfl dX7_seaOf_7 rfl ?_
      refine V_getR 11 26 3 1 28 (hRK 26 1 (by decide) (by decide) (by decide)) flX7_37 rfl rfl rfl (by decide) dX7_seaOf_8 rfl ?_
      refine V_iload_n 12 3 rfl rfl dX7_seaOf_11 rfl ?_
      refine V_ialdN 13 28 6 m (D m) (hD.2.1 m hm6) (by omega) (by decide) rfl (by decide) dX7_seaOf_12 rfl ?_
      refine V_istore 15 [(4, .int (D m)), (3, .int (-1)), (0, rf G 3), (1, rf G 26), (2, .int (nI m))] (by decide) rfl dX7_seaOf_13 rfl ?_
      refine V_iload_n 16 1 rfl rfl dX7_seaOf_15 rfl ?_
      refine V_iconst 17 (-1) rfl dX7_seaOf_16 rfl ?_
      refine V_icmp_eq 26 20 rfl dX7_seaOf_17 rfl (fun c17 => ?_) (fun c17 => absurd c17 (by decide))
      refine V_iconst 27 (0) rfl dX7_seaOf_26 rfl ?_
      refine V_ret_i rfl rfl (Nat.le_refl _) (fun h => absurd h (by decide)) (Nat.le_refl _) (hq _ (fun _ _ _ => rfl)) dX7_seaOf_27
    · show V _ _ _ _ _ _ _ _ [(0, rf G 3), (1, rf G 26), (2, .int (nI m))] [] _ _ _ _ _
      refine V_aload_n 1 1 rfl _ rfl rfl dX7_seaOf_0 rfl ?_
      refine V_getR 4 26 3 2 29 (hRK 26 2 (by decide) (by decide) (by decide)) flX7_32 rfl rfl rfl (by decide) dX7_seaOf_1 rfl ?_
      refine V_iload_n 5 2 rfl rfl dX7_seaOf_4 rfl ?_
      refine V_ialdN 6 29 6 m (-1) ((hD.2.2.1 m hm6).trans e1) (by omega) (by decide) rfl (by decide) dX7_seaOf_5 rfl ?_
      refine V_istore_n 7 [(3, .int (-1)), (0, rf G 3), (1, rf G 26), (2, .int (nI m))] (by decide) rfl rfl dX7_seaOf_6 rfl ?_
      refine V_aload_n 8 2 rfl _ rfl rfl dX7_seaOf_7 rfl ?_
      refine V_getR 11 26 3 1 28 (hRK 26 1 (by decide) (by decide) (by decide)) flX7_37 rfl rfl rfl (by decide) dX7_seaOf_8 rfl ?_
      refine V_iload_n 12 3 rfl rfl dX7_seaOf_11 rfl ?_
      refine V_ialdN 13 28 6 m (D m) (hD.2.1 m hm6) (by omega) (by decide) rfl (by decide) dX7_seaOf_12 rfl ?_
      refine V_istore 15 [(4, .int (D m)), (3, .int (-1)), (0, rf G 3), (1, rf G 26), (2, .int (nI m))] (by decide) rfl dX7_seaOf_13 rfl ?_
      refine V_iload_n 16 1 rfl rfl dX7_seaOf_15 rfl ?_
      refine V_iconst 17 (-1) rfl dX7_seaOf_16 rfl ?_
      refine V_icmp_eq 26 20 rfl dX7_seaOf_17 rfl (fun c17 => ?_) (fun c17 => absurd c17 (by decide))
      refine V_iconst 27 (0) rfl dX7_seaOf_26 rfl ?_
      refine V_ret_i rfl rfl (Nat.le_refl _) (fun h => absurd h (by decide)) (Nat.le_refl _) (hq _ (fun _ _ _ => rfl)) dX7_seaOf_27
  · rcases hWD.2.1 m hm6 with e2 | ⟨h, hh, e2⟩
    · have e3 : seaD K f D m = 0 := by unfold seaD; rw [e2]; cases nOf (D (6 + m)) <;> rfl
      rw [e3] at hq
      rcases hc with rfl | rfl <;> rcases ho with rfl | rfl <;> rcases hl with rfl | rfl
      · show V _ _ _ _ _ _ _ _ [(0, rf G 3), (1, rf G 18), (2, .int (nI m))] [] _ _ _ _ _
        refine V_aload_n 1 1 rfl _ rfl rfl dX7_seaOf_0 rfl ?_
        refine V_getR 4 18 3 2 21 (hRK 18 2 (by decide) (by decide) (by decide)) flX7_32 rfl rfl rfl (by decide) dX7_seaOf_1 rfl ?_
        refine V_iload_n 5 2 rfl rfl dX7_seaOf_4 rfl ?_
        refine V_ialdN 6 21 6 m (nI g) ((hD.2.2.1 m hm6).trans e1) (by omega) (by decide) rfl (by decide) dX7_seaOf_5 rfl ?_
        refine V_istore_n 7 [(3, .int (nI g)), (0, rf G 3), (1, rf G 18), (2, .int (nI m))] (by decide) rfl rfl dX7_seaOf_6 rfl ?_
        refine V_aload_n 8 2 rfl _ rfl rfl dX7_seaOf_7 rfl ?_
        refine V_getR 11 18 3 1 20 (hRK 18 1 (by decide) (by decide) (by decide)) flX7_37 rfl rfl rfl (by decide) dX7_seaOf_8 rfl ?_
        refine V_iload_n 12 3 rfl rfl dX7_seaOf_11 rfl ?_
        refine V_ialdN 13 20 6 m (-1) ((hD.2.1 m hm6).trans e2) (by omega) (by decide) rfl (by decide) dX7_seaOf_12 rfl ?_
        refine V_istore 15 [(4, .int (-1)), (3, .int (nI g)), (0, rf G 3), (1, rf G 18), (2, .int (nI m))] (by decide) rfl dX7_seaOf_13 rfl ?_
        refine V_iload_n 16 1 rfl rfl dX7_seaOf_15 rfl ?_
        refine V_iconst 17 (-1) rfl dX7_seaOf_16 rfl ?_
        refine V_icmp_eq 26 20 rfl dX7_seaOf_17 rfl (fun c17 => absurd c17 (nI_ne (by have := hW.2.1; omega))) (fun c17 => ?_)
        refine V_iload 22 0 rfl dX7_seaOf_20 rfl ?_
        refine V_iconst 23 (-1) rfl dX7_seaOf_22 rfl ?_
        refine V_icmp_ne 28 26 rfl dX7_seaOf_23 rfl (fun c23 => absurd c23 (by decide)) (fun c23 => ?_)
        refine V_iconst 27 (0) rfl dX7_seaOf_26 rfl ?_
        refine V_ret_i rfl rfl (Nat.le_refl _) (fun h => absurd h (by decide)) (Nat.le_refl _) (hq _ (fun _ _ _ => rfl)) dX7_seaOf_27
      · show V _ _ _ _ _ _ _ _ [(0, rf G 3), (1, rf G 18), (2, .int (nI m))] [] _ _ _ _ _
        refine V_aload_n 1 1 rfl _ rfl rfl dX7_seaOf_0 rfl ?_
        refine V_getR 4 18 3 2 21 (hRK 18 2 (by decide) (by decide) (by decide)) flX7_32 rfl rfl rfl (by decide) dX7_seaOf_1 rfl ?_
        refine V_iload_n 5 2 rfl rfl dX7_seaOf_4 rfl ?_
        refine V_ialdN 6 21 6 m (nI g) ((hD.2.2.1 m hm6).trans e1) (by omega) (by decide) rfl (by decide) dX7_seaOf_5 rfl ?_
        refine V_istore_n 7 [(3, .int (nI g)), (0, rf G 3), (1, rf G 18), (2, .int (nI m))] (by decide) rfl rfl dX7_seaOf_6 rfl ?_
        refine V_aload_n 8 2 rfl _ rfl rfl dX7_seaOf_7 rfl ?_
        refine V_getR 11 18 3 1 20 (hRK 18 1 (by decide) (by decide) (by decide)) flX7_37 rfl rfl rfl (by decide) dX7_seaOf_8 rfl ?_
        refine V_iload_n 12 3 rfl rfl dX7_seaOf_11 rfl ?_
        refine V_ialdN 13 20 6 m (-1) ((hD.2.1 m hm6).trans e2) (by omega) (by decide) rfl (by decide) dX7_seaOf_12 rfl ?_
        refine V_istore 15 [(4, .int (-1)), (3, .int (nI g)), (0, rf G 3), (1, rf G 18), (2, .int (nI m))] (by decide) rfl dX7_seaOf_13 rfl ?_
        refine V_iload_n 16 1 rfl rfl dX7_seaOf_15 rfl ?_
        refine V_iconst 17 (-1) rfl dX7_seaOf_16 rfl ?_
        refine V_icmp_eq 26 20 rfl dX7_seaOf_17 rfl (fun c17 => absurd c17 (nI_ne (by have := hW.2.1; omega))) (fun c17 => ?_)
        refine V_iload 22 0 rfl dX7_seaOf_20 rfl ?_
        refine V_iconst 23 (-1) rfl dX7_seaOf_22 rfl ?_
        refine V_icmp_ne 28 26 rfl dX7_seaOf_23 rfl (fun c23 => absurd c23 (by decide)) (fun c23 => ?_)
        refine V_iconst 27 (0) rfl dX7_seaOf_26 rfl ?_
        refine V_ret_i rfl rfl (Nat.le_refl _) (fun h => absurd h (by decide)) (Nat.le_refl _) (hq _ (fun _ _ _ => rfl)) dX7_seaOf_27
      · show V _ _ _ _ _ _ _ _ [(0, rf G 3), (1, rf G 26), (2, .int (nI m))] [] _ _ _ _ _
        refine V_aload_n 1 1 rfl _ rfl rfl dX7_seaOf_0 rfl ?_
        refine V_getR 4 26 3 2 29 (hRK 26 2 (by decide) (by decide) (by decide)) flX7_32 rfl rfl rfl (by decide) dX7_seaOf_1 rfl ?_
        refine V_iload_n 5 2 rfl rfl dX7_seaOf_4 rfl ?_
        refine V_ialdN 6 29 6 m (nI g) ((hD.2.2.1 m hm6).trans e1) (by omega) (by decide) rfl (by decide) dX7_seaOf_5 rfl ?_
        refine V_istore_n 7 [(3, .int (nI g)), (0, rf G 3), (1, rf G 26), (2, .int (nI m))] (by decide) rfl rfl dX7_seaOf_6 rfl ?_
        refine V_aload_n 8 2 rfl _ rfl rfl dX7_seaOf_7 rfl ?_
        refine V_getR 11 26 3 1 28 (hRK 26 1 (by decide) (by decide) (by decide)) flX7_37 rfl rfl rfl (by decide) dX7_seaOf_8 rfl ?_
        refine V_iload_n 12 3 rfl rfl dX7_seaOf_11 rfl ?_
        refine V_ialdN 13 28 6 m (-1) ((hD.2.1 m hm6).trans e2) (by omega) (by decide) rfl (by decide) dX7_seaOf_12 rfl ?_
        refine V_istore 15 [(4, .int (-1)), (3, .int (nI g)), (0, rf G 3), (1, rf G 26), (2, .int (nI m))] (by decide) rfl dX7_seaOf_13 rfl ?_
        refine V_iload_n 16 1 rfl rfl dX7_seaOf_15 rfl ?_
        refine V_iconst 17 (-1) rfl dX7_seaOf_16 rfl ?_
        refine V_icmp_eq 26 20 rfl dX7_seaOf_17 rfl (fun c17 => absurd c17 (nI_ne (by have := hW.2.1; omega))) (fun c17 => ?_)
        refine V_iload 22 0 rfl dX7_seaOf_20 rfl ?_
        refine V_iconst 23 (-1) rfl dX7_seaOf_22 rfl ?_
        refine V_icmp_ne 28 26 rfl dX7_seaOf_23 rfl (fun c23 => absurd c23 (by decide)) (fun c23 => ?_)
        refine V_iconst 27 (0) rfl dX7_seaOf_26 rfl ?_
        refine V_ret_i rfl rfl (Nat.le_refl _) (fun h => absurd h (by decide)) (Nat.le_refl _) (hq _ (fun _ _ _ => rfl)) dX7_seaOf_27
      · show V _ _ _ _ _ _ _ _ [(0, rf G 3), (1, rf G 26), (2, .int (nI m))] [] _ _ _ _ _
        refine V_aload_n 1 1 rfl _ rfl rfl dX7_seaOf_0 rfl ?_
        refine V_getR 4 26 3 2 29 (hRK 26 2 (by decide) (by decide) (by decide)) flX7_32 rfl rfl rfl (by decide) dX7_seaOf_1 rfl ?_
        refine V_iload_n 5 2 rfl rfl dX7_seaOf_4 rfl ?_
        refine V_ialdN 6 29 6 m (nI g) ((hD.2.2.1 m hm6).trans e1) (by omega) (by decide) rfl (by decide) dX7_seaOf_5 rfl ?_
        refine V_istore_n 7 [(3, .int (nI g)), (0, rf G 3), (1, rf G 26), (2, .int (nI m))] (by decide) rfl rfl dX7_seaOf_6 rfl ?_
        refine V_aload_n 8 2 rfl _ rfl rfl dX7_seaOf_7 rfl ?_
        refine V_getR 11 26 3 1 28 (hRK 26 1 (by decide) (by decide) (by decide)) flX7_37 rfl rfl rfl (by decide) dX7_seaOf_8 rfl ?_
        refine V_iload_n 12 3 rfl rfl dX7_seaOf_11 rfl ?_
        refine V_ialdN 13 28 6 m (-1) ((hD.2.1 m hm6).trans e2) (by omega) (by decide) rfl (by decide) dX7_seaOf_12 rfl ?_
        refine V_istore 15 [(4, .int (-1)), (3, .int (nI g)), (0, rf G 3), (1, rf G 26), (2, .int (nI m))] (by decide) rfl dX7_seaOf_13 rfl ?_
        refine V_iload_n 16 1 rfl rfl dX7_seaOf_15 rfl ?_
        refine V_iconst 17 (-1) rfl dX7_seaOf_16 rfl ?_
        refine V_icmp_eq 26 20 rfl dX7_seaOf_17 rfl (fun c17 => absurd c17 (nI_ne (by have := hW.2.1; omega))) (fun c17 => ?_)
        refine V_iload 22 0 rfl dX7_seaOf_20 rfl ?_
        refine V_iconst 23 (-1) rfl dX7_seaOf_22 rfl ?_
        refine V_icmp_ne 28 26 rfl dX7_seaOf_23 rfl (fun c23 => absurd c23 (by decide)) (fun c23 => ?_)
        refine V_iconst 27 (0) rfl dX7_seaOf_26 rfl ?_
        refine V_ret_i rfl rfl (Nat.le_refl _) (fun h => absurd h (by decide)) (Nat.le_refl _) (hq _ (fun _ _ _ => rfl)) dX7_seaOf_27
      · show V _ _ _ _ _ _ _ _ [(0, rf G 3), (1, rf G 18), (2, .int (nI m))] [] _ _ _ _ _
        refine V_aload_n 1 1 rfl _ rfl rfl dX7_seaOf_0 rfl ?_
        refine V_getR 4 18 3 2 21 (hRK 18 2 (by decide) (by decide) (by decide)) flX7_32 rfl rfl rfl (by decide) dX7_seaOf_1 rfl ?_
        refine V_iload_n 5 2 rfl rfl dX7_seaOf_4 rfl ?_
        refine V_ialdN 6 21 6 m (nI g) ((hD.2.2.1 m hm6).trans e1) (by omega) (by decide) rfl (by decide) dX7_seaOf_5 rfl ?_
        refine V_istore_n 7 [(3, .int (nI g)), (0, rf G 3), (1, rf G 18), (2, .int (nI m))] (by decide) rfl rfl dX7_seaOf_6 rfl ?_
        refine V_aload_n 8 2 rfl _ rfl rfl dX7_seaOf_7 rfl ?_
        refine V_getR 11 18 3 1 20 (hRK 18 1 (by decide) (by decide) (by decide)) flX7_37 rfl rfl rfl (by decide) dX7_seaOf_8 rfl ?_
        refine V_iload_n 12 3 rfl rfl dX7_seaOf_11 rfl ?_
        refine V_ialdN 13 20 6 m (-1) ((hD.2.1 m hm6).trans e2) (by omega) (by decide) rfl (by decide) dX7_seaOf_12 rfl ?_
        refine V_istore 15 [(4, .int (-1)), (3, .int (nI g)), (0, rf G 3), (1, rf G 18), (2, .int (nI m))] (by decide) rfl dX7_seaOf_13 rfl ?_
        refine V_iload_n 16 1 rfl rfl dX7_seaOf_15 rfl ?_
        refine V_iconst 17 (-1) rfl dX7_seaOf_16 rfl ?_
        refine V_icmp_eq 26 20 rfl dX7_seaOf_17 rfl (fun c17 => absurd c17 (nI_ne (by have := hW.2.1; omega))) (fun c17 => ?_)
        refine V_iload 22 0 rfl dX7_seaOf_20 rfl ?_
        refine V_iconst 23 (-1) rfl dX7_seaOf_22 rfl ?_
        refine V_icmp_ne 28 26 rfl dX7_seaOf_23 rfl (fun c23 => absurd c23 (by decide)) (fun c23 => ?_)
        refine V_iconst 27 (0) rfl dX7_seaOf_26 rfl ?_
        refine V_ret_i rfl rfl (Nat.le_refl _) (fun h => absurd h (by decide)) (Nat.le_refl _) (hq _ (fun _ _ _ => rfl)) dX7_seaOf_27
      · show V _ _ _ _ _ _ _ _ [(0, rf G 3), (1, rf G 18), (2, .int (nI m))] [] _ _ _ _ _
        refine V_aload_n 1 1 rfl _ rfl rfl dX7_seaOf_0 rfl ?_
        refine V_getR 4 18 3 2 21 (hRK 18 2 (by decide) (by decide) (by decide)) flX7_32 rfl rfl rfl (by decide) dX7_seaOf_1 rfl ?_
        refine V_iload_n 5 2 rfl rfl dX7_seaOf_4 rfl ?_
        refine V_ialdN 6 21 6 m (nI g) ((hD.2.2.1 m hm6).trans e1) (by omega) (by decide) rfl (by decide) dX7_seaOf_5 rfl ?_
        refine V_istore_n 7 [(3, .int (nI g)), (0, rf G 3), (1, rf G 18), (2, .int (nI m))] (by decide) rfl rfl dX7_seaOf_6 rfl ?_
        refine V_aload_n 8 2 rfl _ rfl rfl dX7_seaOf_7 rfl ?_
        refine V_getR 11 18 3 1 20 (hRK 18 1 (by decide) (by decide) (by decide)) flX7_37 rfl rfl rfl (by decide) dX7_seaOf_8 rfl ?_
        refine V_iload_n 12 3 rfl rfl dX7_seaOf_11 rfl ?_
        refine V_ialdN 13 20 6 m (-1) ((hD.2.1 m hm6).trans e2) (by omega) (by decide) rfl (by decide) dX7_seaOf_12 rfl ?_
        refine V_istore 15 [(4, .int (-1)), (3, .int (nI g)), (0, rf G 3), (1, rf G 18), (2, .int (nI m))] (by decide) rfl dX7_seaOf_13 rfl ?_
        refine V_iload_n 16 1 rfl rfl dX7_seaOf_15 rfl ?_
        refine V_iconst 17 (-1) rfl dX7_seaOf_16 rfl ?_
        refine V_icmp_eq 26 20 rfl dX7_seaOf_17 rfl (fun c17 => absurd c17 (nI_ne (by have := hW.2.1; omega))) (fun c17 => ?_)
        refine V_iload 22 0 rfl dX7_seaOf_20 rfl ?_
        refine V_iconst 23 (-1) rfl dX7_seaOf_22 rfl ?_
        refine V_icmp_ne 28 26 rfl dX7_seaOf_23 rfl (fun c23 => absurd c23 (by decide)) (fun c23 => ?_)
        refine V_iconst 27 (0) rfl dX7_seaOf_26 rfl ?_
        refine V_ret_i rfl rfl (Nat.le_refl _) (fun h => absurd h (by decide)) (Nat.le_refl _) (hq _ (fun _ _ _ => rfl)) dX7_seaOf_27
      · show V _ _ _ _ _ _ _ _ [(0, rf G 3), (1, rf G 26), (2, .int (nI m))] [] _ _ _ _ _
        refine V_aload_n 1 1 rfl _ rfl rfl dX7_seaOf_0 rfl ?_
        refine V_getR 4 26 3 2 29 (hRK 26 2 (by decide) (by decide) (by decide)) flX7_32 rfl rfl rfl (by decide) dX7_seaOf_1 rfl ?_
        refine V_iload_n 5 2 rfl rfl dX7_seaOf_4 rfl ?_
        refine V_ialdN 6 29 6 m (nI g) ((hD.2.2.1 m hm6).trans e1) (by omega) (by decide) rfl (by decide) dX7_seaOf_5 rfl ?_
        refine V_istore_n 7 [(3, .int (nI g)), (0, rf G 3), (1, rf G 26), (2, .int (nI m))] (by decide) rfl rfl dX7_seaOf_6 rfl ?_
        refine V_aload_n 8 2 rfl _ rfl rfl dX7_seaOf_7 rfl ?_
        refine V_getR 11 26 3 1 28 (hRK 26 1 (by decide) (by decide) (by decide)) flX7_37 rfl rfl rfl (by decide) dX7_seaOf_8 rfl ?_
        refine V_iload_n 12 3 rfl rfl dX7_seaOf_11 rfl ?_
        refine V_ialdN 13 28 6 m (-1) ((hD.2.1 m hm6).trans e2) (by omega) (by decide) rfl (by decide) dX7_seaOf_12 rfl ?_
        refine V_istore 15 [(4, .int (-1)), (3, .int (nI g)), (0, rf G 3), (1, rf G 26), (2, .int (nI m))] (by decide) rfl dX7_seaOf_13 rfl ?_
        refine V_iload_n 16 1 rfl rfl dX7_seaOf_15 rfl ?_
        refine V_iconst 17 (-1) rfl dX7_seaOf_16 rfl ?_
        refine V_icmp_eq 26 20 rfl dX7_seaOf_17 rfl (fun c17 => absurd c17 (nI_ne (by have := hW.2.1; omega))) (fun c17 => ?_)
        refine V_iload 22 0 rfl dX7_seaOf_20 rfl ?_
        refine V_iconst 23 (-1) rfl dX7_seaOf_22 rfl ?_
        refine V_icmp_ne 28 26 rfl dX7_seaOf_23 rfl (fun c23 => absurd c23 (by decide)) (fun c23 => ?_)
        refine V_iconst 27 (0) rfl dX7_seaOf_26 rfl ?_
        refine V_ret_i rfl rfl (Nat.le_refl _) (fun h => absurd h (by decide)) (Nat.le_refl _) (hq _ (fun _ _ _ => rfl)) dX7_seaOf_27
      · show V _ _ _ _ _ _ _ _ [(0, rf G 3), (1, rf G 26), (2, .int (nI m))] [] _ _ _ _ _
        refine V_aload_n 1 1 rfl _ rfl rfl dX7_seaOf_0 rfl ?_
        refine V_getR 4 26 3 2 29 (hRK 26 2 (by decide) (by decide) (by decide)) flX7_32 rfl rfl rfl (by decide) dX7_seaOf_1 rfl ?_
        refine V_iload_n 5 2 rfl rfl dX7_seaOf_4 rfl ?_
        refine V_ialdN 6 29 6 m (nI g) ((hD.2.2.1 m hm6).trans e1) (by omega) (by decide) rfl (by decide) dX7_seaOf_5 rfl ?_
        refine V_istore_n 7 [(3, .int (nI g)), (0, rf G 3), (1, rf G 26), (2, .int (nI m))] (by decide) rfl rfl dX7_seaOf_6 rfl ?_
        refine V_aload_n 8 2 rfl _ rfl rfl dX7_seaOf_7 rfl ?_
        refine V_getR 11 26 3 1 28 (hRK 26 1 (by decide) (by decide) (by decide)) flX7_37 rfl rfl rfl (by decide) dX7_seaOf_8 rfl ?_
        refine V_iload_n 12 3 rfl rfl dX7_seaOf_11 rfl ?_
        refine V_ialdN 13 28 6 m (-1) ((hD.2.1 m hm6).trans e2) (by omega) (by decide) rfl (by decide) dX7_seaOf_12 rfl ?_
        refine V_istore 15 [(4, .int (-1)), (3, .int (nI g)), (0, rf G 3), (1, rf G 26), (2, .int (nI m))] (by decide) rfl dX7_seaOf_13 rfl ?_
        refine V_iload_n 16 1 rfl rfl dX7_seaOf_15 rfl ?_
        refine V_iconst 17 (-1) rfl dX7_seaOf_16 rfl ?_
        refine V_icmp_eq 26 20 rfl dX7_seaOf_17 rfl (fun c17 => absurd c17 (nI_ne (by have := hW.2.1; omega))) (fun c17 => ?_)
        refine V_iload 22 0 rfl dX7_seaOf_20 rfl ?_
        refine V_iconst 23 (-1) rfl dX7_seaOf_22 rfl ?_
        refine V_icmp_ne 28 26 rfl dX7_seaOf_23 rfl (fun c23 => absurd c23 (by decide)) (fun c23 => ?_)
        refine V_iconst 27 (0) rfl dX7_seaOf_26 rfl ?_
        refine V_ret_i rfl rfl (Nat.le_refl _) (fun h => absurd h (by decide)) (Nat.le_refl _) (hq _ (fun _ _ _ => rfl)) dX7_seaOf_27
    · have hg6 : g < 6 := by have := hW.2.1; omega
      have hh8 : h < 8 := by have := hW.1; omega
      have e3 : seaD K f D m = f (seaV K D m h g) := by unfold seaD; rw [e1, e2, nOf_n (by omega), nOf_n (by omega)]
      rw [e3] at hq
      rcases hc with rfl | rfl <;> rcases ho with rfl | rfl <;> rcases hl with rfl | rfl
      · show V _ _ _ _ _ _ _ _ [(0, rf G 3), (1, rf G 18), (2, .int (nI m))] [] _ _ _ _ _
        refine V_aload_n 1 1 rfl _ rfl rfl dX7_seaOf_0 rfl ?_
        refine V_getR 4 18 3 2 21 (hRK 18 2 (by decide) (by decide) (by decide)) flX7_32 rfl rfl rfl (by decide) dX7_seaOf_1 rfl ?_
        refine V_iload_n 5 2 rfl rfl dX7_seaOf_4 rfl ?_
        refine V_ialdN 6 21 6 m (nI g) ((hD.2.2.1 m hm6).trans e1) (by omega) (by decide) rfl (by decide) dX7_seaOf_5 rfl ?_
        refine V_istore_n 7 [(3, .int (nI g)), (0, rf G 3), (1, rf G 18), (2, .int (nI m))] (by decide) rfl rfl dX7_seaOf_6 rfl ?_
        refine V_aload_n 8 2 rfl _ rfl rfl dX7_seaOf_7 rfl ?_
        refine V_getR 11 18 3 1 20 (hRK 18 1 (by decide) (by decide) (by decide)) flX7_37 rfl rfl rfl (by decide) dX7_seaOf_8 rfl ?_
        refine V_iload_n 12 3 rfl rfl dX7_seaOf_11 rfl ?_
        refine V_ialdN 13 20 6 m (nI h) ((hD.2.1 m hm6).trans e2) (by omega) (by decide) rfl (by decide) dX7_seaOf_12 rfl ?_
        refine V_istore 15 [(4, .int (nI h)), (3, .int (nI g)), (0, rf G 3), (1, rf G 18), (2, .int (nI m))] (by decide) rfl dX7_seaOf_13 rfl ?_
        refine V_iload_n 16 1 rfl rfl dX7_seaOf_15 rfl ?_
        refine V_iconst 17 (-1) rfl dX7_seaOf_16 rfl ?_
        refine V_icmp_eq 26 20 rfl dX7_seaOf_17 rfl (fun c17 => absurd c17 (nI_ne (by omega))) (fun c17 => ?_)
        refine V_iload 22 0 rfl dX7_seaOf_20 rfl ?_
        refine V_iconst 23 (-1) rfl dX7_seaOf_22 rfl ?_
        refine V_icmp_ne 28 26 rfl dX7_seaOf_23 rfl (fun c23 => ?_) (fun c23 => absurd c23 (nI_ne (by omega)))
        refine V_aload_n 29 2 rfl _ rfl rfl dX7_seaOf_28 rfl ?_
        refine V_aload_n 30 3 rfl _ rfl rfl dX7_seaOf_29 rfl ?_
        refine V_iload_n 31 4 rfl rfl dX7_seaOf_30 rfl ?_
        refine V_iload 33 0 rfl dX7_seaOf_31 rfl ?_
        refine V_iload_n 34 1 rfl rfl dX7_seaOf_33 rfl ?_
        refine V_callV (K' := 0) (S' := 0) 37 3 7 4 [rf G 18, .int (nI m), .int (nI h), .int (nI g)] mkX7_standAlone lkX7_40 (by decide) rfl rfl (by decide) rfl (Nat.le_of_ble_eq_true rfl) (Nat.le_of_ble_eq_true rfl) (Nat.le_of_ble_eq_true rfl) (Nat.le_of_ble_eq_true rfl) rfl rfl dX7_seaOf_34 rfl (c_X7_standAlone hRK hR3c hR3l hR32 hR33 hc0 ho0 hC hW hD hm hh hg (fun I1 hI1 hV1 => ?_))
        refine Kq_v (k' := 0) (sl' := 0) rfl rfl ?_
        have hD1 : DayC I1 18 D := hD.fr (fun a h1 h2 => hI1 a (by omega))
        refine V_aload_n 38 2 rfl _ rfl rfl dX7_seaOf_37 rfl ?_
        refine V_getR 41 3 7 2 16 hR32 flX7_25 rfl rfl rfl (by decide) dX7_seaOf_38 rfl ?_
        refine V_iconst 42 (2) rfl dX7_seaOf_41 rfl ?_
        refine V_aload_n 43 3 rfl _ rfl rfl dX7_seaOf_42 rfl ?_
        refine V_getR 46 18 3 3 22 (hRK 18 3 (by decide) (by decide) (by decide)) flX7_44 rfl rfl rfl (by decide) dX7_seaOf_43 rfl ?_
        refine V_iload_n 47 4 rfl rfl dX7_seaOf_46 rfl ?_
        refine V_ialdN 48 22 6 m (D (12 + m)) (hD1.2.2.2.1 m hm6) (by omega) (by decide) rfl (by decide) dX7_seaOf_47 rfl ?_
        refine V_iastN 49 16 8 2 (by omega) (by decide) rfl (by decide) dX7_seaOf_48 rfl ?_
        refine V_aload_n 50 2 rfl _ rfl rfl dX7_seaOf_49 rfl ?_
        refine V_getR 53 3 7 2 16 hR32 flX7_25 rfl rfl rfl (by decide) dX7_seaOf_50 rfl ?_
        refine V_bipush 55 (6) rfl dX7_seaOf_53 rfl ?_
        refine V_aload_n 56 3 rfl _ rfl rfl dX7_seaOf_55 rfl ?_
        refine V_iload_n 57 1 rfl rfl dX7_seaOf_56 rfl ?_
        refine V_callV (K' := 0) (S' := 0) 60 18 3 1 [.int (nI g)] mkX3_menAt lkX7_47 (by decide) rfl rfl (by decide) rfl (Nat.le_of_ble_eq_true rfl) (Nat.le_of_ble_eq_true rfl) (Nat.le_of_ble_eq_true rfl) (Nat.le_of_ble_eq_true rfl) rfl rfl dX7_seaOf_57 rfl (c_X3_menAt_18 hRK (hD1.fr (fun a h1 h2 => up2_n _ _ _ (by omega))) ?_)
        refine Kq_i (k' := 0) (sl' := 0) rfl rfl ?_
        refine V_callS (K' := 0) (S' := 0) 63 1 [.int (mAtF D (nI g) 6)] mkJ6_bitCount_0f7a4 lkX7_51 rfl (Nat.le_of_ble_eq_true rfl) (Nat.le_of_ble_eq_true rfl) (Nat.le_of_ble_eq_true rfl) (Nat.le_of_ble_eq_true rfl) rfl rfl dX7_seaOf_60 rfl (c_J6_bitCount ?_)
        refine Kq_i (k' := 0) (sl' := 0) rfl rfl ?_
        refine V_iconst 64 (1) rfl dX7_seaOf_63 rfl ?_
        refine V_isub 65 dX7_seaOf_64 rfl ?_
        refine V_iastN 66 16 8 6 (by omega) (by decide) rfl (by decide) dX7_seaOf_65 rfl ?_
        refine V_aload_n 67 2 rfl _ rfl rfl dX7_seaOf_66 rfl ?_
        refine V_getR 70 3 7 1 11 hR3l flX7_21 rfl rfl rfl (by decide) dX7_seaOf_67 rfl ?_
        refine V_aload_n 71 2 rfl _ rfl rfl dX7_seaOf_70 rfl ?_
        refine V_getR 74 3 7 2 16 hR32 flX7_25 rfl rfl rfl (by decide) dX7_seaOf_71 rfl ?_
        have hfx : f ((up2 (up2 I1 16 2 (D (12 + m))) 16 6 ((bcI (mAtF D (nI g) 6)) - 1)) 16) = f (seaV K D m h g) := hL.ext _ _ (fun k hk => by rcases (show k = 0 ∨ k = 1 ∨ k = 2 ∨ k = 3 ∨ k = 4 ∨ k = 5 ∨ k = 6 ∨ k = 7 by omega) with rfl | rfl | rfl | rfl | rfl | rfl | rfl | rfl <;> first | rfl | exact hV1 _ hk)
        refine V_callV (K' := 0) (S' := 0) 77 11 5 1 [rf G 16] mkX5_seaBy lkX7_56 (by decide) rfl rfl (by decide) rfl (Nat.le_of_ble_eq_true rfl) (Nat.le_of_ble_eq_true rfl) (Nat.le_of_ble_eq_true rfl) (Nat.le_of_ble_eq_true rfl) rfl rfl dX7_seaOf_74 rfl (c_X5_seaBy hRK hl0 (hL.fr (fun a h1 h2 => by rw [up2_n _ _ _ (by omega), up2_n _ _ _ (by omega)]; exact hI1 a (by omega))) (fun I2 hI2 => ?_))
        rw [hfx]
        refine Kq_i (k' := 0) (sl' := 0) rfl rfl ?_
        refine V_ret_i rfl rfl (Nat.le_refl _) (fun h => absurd h (by decide)) (Nat.le_refl _) (hq I2 (fun a h1 h2 => by rw [hI2 a h2, up2_n _ _ _ h1, up2_n _ _ _ h1]; exact hI1 a h1)) dX7_seaOf_77
      · show V _ _ _ _ _ _ _ _ [(0, rf G 3), (1, rf G 18), (2, .int (nI m))] [] _ _ _ _ _
        refine V_aload_n 1 1 rfl _ rfl rfl dX7_seaOf_0 rfl ?_
        refine V_getR 4 18 3 2 21 (hRK 18 2 (by decide) (by decide) (by decide)) flX7_32 rfl rfl rfl (by decide) dX7_seaOf_1 rfl ?_
        refine V_iload_n 5 2 rfl rfl dX7_seaOf_4 rfl ?_
        refine V_ialdN 6 21 6 m (nI g) ((hD.2.2.1 m hm6).trans e1) (by omega) (by decide) rfl (by decide) dX7_seaOf_5 rfl ?_
        refine V_istore_n 7 [(3, .int (nI g)), (0, rf G 3), (1, rf G 18), (2, .int (nI m))] (by decide) rfl rfl dX7_seaOf_6 rfl ?_
        refine V_aload_n 8 2 rfl _ rfl rfl dX7_seaOf_7 rfl ?_
        refine V_getR 11 18 3 1 20 (hRK 18 1 (by decide) (by decide) (by decide)) flX7_37 rfl rfl rfl (by decide) dX7_seaOf_8 rfl ?_
        refine V_iload_n 12 3 rfl rfl dX7_seaOf_11 rfl ?_
        refine V_ialdN 13 20 6 m (nI h) ((hD.2.1 m hm6).trans e2) (by omega) (by decide) rfl (by decide) dX7_seaOf_12 rfl ?_
        refine V_istore 15 [(4, .int (nI h)), (3, .int (nI g)), (0, rf G 3), (1, rf G 18), (2, .int (nI m))] (by decide) rfl dX7_seaOf_13 rfl ?_
        refine V_iload_n 16 1 rfl rfl dX7_seaOf_15 rfl ?_
        refine V_iconst 17 (-1) rfl dX7_seaOf_16 rfl ?_
        refine V_icmp_eq 26 20 rfl dX7_seaOf_17 rfl (fun c17 => absurd c17 (nI_ne (by omega))) (fun c17 => ?_)
        refine V_iload 22 0 rfl dX7_seaOf_20 rfl ?_
        refine V_iconst 23 (-1) rfl dX7_seaOf_22 rfl ?_
        refine V_icmp_ne 28 26 rfl dX7_seaOf_23 rfl (fun c23 => ?_) (fun c23 => absurd c23 (nI_ne (by omega)))
        refine V_aload_n 29 2 rfl _ rfl rfl dX7_seaOf_28 rfl ?_
        refine V_aload_n 30 3 rfl _ rfl rfl dX7_seaOf_29 rfl ?_
        refine V_iload_n 31 4 rfl rfl dX7_seaOf_30 rfl ?_
        refine V_iload 33 0 rfl dX7_seaOf_31 rfl ?_
        refine V_iload_n 34 1 rfl rfl dX7_seaOf_33 rfl ?_
        refine V_callV (K' := 0) (S' := 0) 37 3 7 4 [rf G 18, .int (nI m), .int (nI h), .int (nI g)] mkX7_standAlone lkX7_40 (by decide) rfl rfl (by decide) rfl (Nat.le_of_ble_eq_true rfl) (Nat.le_of_ble_eq_true rfl) (Nat.le_of_ble_eq_true rfl) (Nat.le_of_ble_eq_true rfl) rfl rfl dX7_seaOf_34 rfl (c_X7_standAlone hRK hR3c hR3l hR32 hR33 hc0 ho0 hC hW hD hm hh hg (fun I1 hI1 hV1 => ?_))
        refine Kq_v (k' := 0) (sl' := 0) rfl rfl ?_
        have hD1 : DayC I1 18 D := hD.fr (fun a h1 h2 => hI1 a (by omega))
        refine V_aload_n 38 2 rfl _ rfl rfl dX7_seaOf_37 rfl ?_
        refine V_getR 41 3 7 2 16 hR32 flX7_25 rfl rfl rfl (by decide) dX7_seaOf_38 rfl ?_
        refine V_iconst 42 (2) rfl dX7_seaOf_41 rfl ?_
        refine V_aload_n 43 3 rfl _ rfl rfl dX7_seaOf_42 rfl ?_
        refine V_getR 46 18 3 3 22 (hRK 18 3 (by decide) (by decide) (by decide)) flX7_44 rfl rfl rfl (by decide) dX7_seaOf_43 rfl ?_
        refine V_iload_n 47 4 rfl rfl dX7_seaOf_46 rfl ?_
        refine V_ialdN 48 22 6 m (D (12 + m)) (hD1.2.2.2.1 m hm6) (by omega) (by decide) rfl (by decide) dX7_seaOf_47 rfl ?_
        refine V_iastN 49 16 8 2 (by omega) (by decide) rfl (by decide) dX7_seaOf_48 rfl ?_
        refine V_aload_n 50 2 rfl _ rfl rfl dX7_seaOf_49 rfl ?_
        refine V_getR 53 3 7 2 16 hR32 flX7_25 rfl rfl rfl (by decide) dX7_seaOf_50 rfl ?_
        refine V_bipush 55 (6) rfl dX7_seaOf_53 rfl ?_
        refine V_aload_n 56 3 rfl _ rfl rfl dX7_seaOf_55 rfl ?_
        refine V_iload_n 57 1 rfl rfl dX7_seaOf_56 rfl ?_
        refine V_callV (K' := 0) (S' := 0) 60 18 3 1 [.int (nI g)] mkX3_menAt lkX7_47 (by decide) rfl rfl (by decide) rfl (Nat.le_of_ble_eq_true rfl) (Nat.le_of_ble_eq_true rfl) (Nat.le_of_ble_eq_true rfl) (Nat.le_of_ble_eq_true rfl) rfl rfl dX7_seaOf_57 rfl (c_X3_menAt_18 hRK (hD1.fr (fun a h1 h2 => up2_n _ _ _ (by omega))) ?_)
        refine Kq_i (k' := 0) (sl' := 0) rfl rfl ?_
        refine V_callS (K' := 0) (S' := 0) 63 1 [.int (mAtF D (nI g) 6)] mkJ6_bitCount_0f7a4 lkX7_51 rfl (Nat.le_of_ble_eq_true rfl) (Nat.le_of_ble_eq_true rfl) (Nat.le_of_ble_eq_true rfl) (Nat.le_of_ble_eq_true rfl) rfl rfl dX7_seaOf_60 rfl (c_J6_bitCount ?_)
        refine Kq_i (k' := 0) (sl' := 0) rfl rfl ?_
        refine V_iconst 64 (1) rfl dX7_seaOf_63 rfl ?_
        refine V_isub 65 dX7_seaOf_64 rfl ?_
        refine V_iastN 66 16 8 6 (by omega) (by decide) rfl (by decide) dX7_seaOf_65 rfl ?_
        refine V_aload_n 67 2 rfl _ rfl rfl dX7_seaOf_66 rfl ?_
        refine V_getR 70 3 7 1 58 hR3l flX7_21 rfl rfl rfl (by decide) dX7_seaOf_67 rfl ?_
        refine V_aload_n 71 2 rfl _ rfl rfl dX7_seaOf_70 rfl ?_
        refine V_getR 74 3 7 2 16 hR32 flX7_25 rfl rfl rfl (by decide) dX7_seaOf_71 rfl ?_
        have hfx : f ((up2 (up2 I1 16 2 (D (12 + m))) 16 6 ((bcI (mAtF D (nI g) 6)) - 1)) 16) = f (seaV K D m h g) := hL.ext _ _ (fun k hk => by rcases (show k = 0 ∨ k = 1 ∨ k = 2 ∨ k = 3 ∨ k = 4 ∨ k = 5 ∨ k = 6 ∨ k = 7 by omega) with rfl | rfl | rfl | rfl | rfl | rfl | rfl | rfl <;> first | rfl | exact hV1 _ hk)
        refine V_callV (K' := 0) (S' := 0) 77 58 5 1 [rf G 16] mkX5_seaBy lkX7_56 (by decide) rfl rfl (by decide) rfl (Nat.le_of_ble_eq_true rfl) (Nat.le_of_ble_eq_true rfl) (Nat.le_of_ble_eq_true rfl) (Nat.le_of_ble_eq_true rfl) rfl rfl dX7_seaOf_74 rfl (c_X5_seaBy hRK hl0 (hL.fr (fun a h1 h2 => by rw [up2_n _ _ _ (by omega), up2_n _ _ _ (by omega)]; exact hI1 a (by omega))) (fun I2 hI2 => ?_))
        rw [hfx]
        refine Kq_i (k' := 0) (sl' := 0) rfl rfl ?_
        refine V_ret_i rfl rfl (Nat.le_refl _) (fun h => absurd h (by decide)) (Nat.le_refl _) (hq I2 (fun a h1 h2 => by rw [hI2 a h2, up2_n _ _ _ h1, up2_n _ _ _ h1]; exact hI1 a h1)) dX7_seaOf_77
      · show V _ _ _ _ _ _ _ _ [(0, rf G 3), (1, rf G 26), (2, .int (nI m))] [] _ _ _ _ _
        refine V_aload_n 1 1 rfl _ rfl rfl dX7_seaOf_0 rfl ?_
        refine V_getR 4 26 3 2 29 (hRK 26 2 (by decide) (by decide) (by decide)) flX7_32 rfl rfl rfl (by decide) dX7_seaOf_1 rfl ?_
        refine V_iload_n 5 2 rfl rfl dX7_seaOf_4 rfl ?_
        refine V_ialdN 6 29 6 m (nI g) ((hD.2.2.1 m hm6).trans e1) (by omega) (by decide) rfl (by decide) dX7_seaOf_5 rfl ?_
        refine V_istore_n 7 [(3, .int (nI g)), (0, rf G 3), (1, rf G 26), (2, .int (nI m))] (by decide) rfl rfl dX7_seaOf_6 rfl ?_
        refine V_aload_n 8 2 rfl _ rfl rfl dX7_seaOf_7 rfl ?_
        refine V_getR 11 26 3 1 28 (hRK 26 1 (by decide) (by decide) (by decide)) flX7_37 rfl rfl rfl (by decide) dX7_seaOf_8 rfl ?_
        refine V_iload_n 12 3 rfl rfl dX7_seaOf_11 rfl ?_
        refine V_ialdN 13 28 6 m (nI h) ((hD.2.1 m hm6).trans e2) (by omega) (by decide) rfl (by decide) dX7_seaOf_12 rfl ?_
        refine V_istore 15 [(4, .int (nI h)), (3, .int (nI g)), (0, rf G 3), (1, rf G 26), (2, .int (nI m))] (by decide) rfl dX7_seaOf_13 rfl ?_
        refine V_iload_n 16 1 rfl rfl dX7_seaOf_15 rfl ?_
        refine V_iconst 17 (-1) rfl dX7_seaOf_16 rfl ?_
        refine V_icmp_eq 26 20 rfl dX7_seaOf_17 rfl (fun c17 => absurd c17 (nI_ne (by omega))) (fun c17 => ?_)
        refine V_iload 22 0 rfl dX7_seaOf_20 rfl ?_
        refine V_iconst 23 (-1) rfl dX7_seaOf_22 rfl ?_
        refine V_icmp_ne 28 26 rfl dX7_seaOf_23 rfl (fun c23 => ?_) (fun c23 => absurd c23 (nI_ne (by omega)))
        refine V_aload_n 29 2 rfl _ rfl rfl dX7_seaOf_28 rfl ?_
        refine V_aload_n 30 3 rfl _ rfl rfl dX7_seaOf_29 rfl ?_
        refine V_iload_n 31 4 rfl rfl dX7_seaOf_30 rfl ?_
        refine V_iload 33 0 rfl dX7_seaOf_31 rfl ?_
        refine V_iload_n 34 1 rfl rfl dX7_seaOf_33 rfl ?_
        refine V_callV (K' := 0) (S' := 0) 37 3 7 4 [rf G 26, .int (nI m), .int (nI h), .int (nI g)] mkX7_standAlone lkX7_40 (by decide) rfl rfl (by decide) rfl (Nat.le_of_ble_eq_true rfl) (Nat.le_of_ble_eq_true rfl) (Nat.le_of_ble_eq_true rfl) (Nat.le_of_ble_eq_true rfl) rfl rfl dX7_seaOf_34 rfl (c_X7_standAlone hRK hR3c hR3l hR32 hR33 hc0 ho0 hC hW hD hm hh hg (fun I1 hI1 hV1 => ?_))
        refine Kq_v (k' := 0) (sl' := 0) rfl rfl ?_
        have hD1 : DayC I1 26 D := hD.fr (fun a h1 h2 => hI1 a (by omega))
        refine V_aload_n 38 2 rfl _ rfl rfl dX7_seaOf_37 rfl ?_
        refine V_getR 41 3 7 2 16 hR32 flX7_25 rfl rfl rfl (by decide) dX7_seaOf_38 rfl ?_
        refine V_iconst 42 (2) rfl dX7_seaOf_41 rfl ?_
        refine V_aload_n 43 3 rfl _ rfl rfl dX7_seaOf_42 rfl ?_
        refine V_getR 46 26 3 3 30 (hRK 26 3 (by decide) (by decide) (by decide)) flX7_44 rfl rfl rfl (by decide) dX7_seaOf_43 rfl ?_
        refine V_iload_n 47 4 rfl rfl dX7_seaOf_46 rfl ?_
        refine V_ialdN 48 30 6 m (D (12 + m)) (hD1.2.2.2.1 m hm6) (by omega) (by decide) rfl (by decide) dX7_seaOf_47 rfl ?_
        refine V_iastN 49 16 8 2 (by omega) (by decide) rfl (by decide) dX7_seaOf_48 rfl ?_
        refine V_aload_n 50 2 rfl _ rfl rfl dX7_seaOf_49 rfl ?_
        refine V_getR 53 3 7 2 16 hR32 flX7_25 rfl rfl rfl (by decide) dX7_seaOf_50 rfl ?_
        refine V_bipush 55 (6) rfl dX7_seaOf_53 rfl ?_
        refine V_aload_n 56 3 rfl _ rfl rfl dX7_seaOf_55 rfl ?_
        refine V_iload_n 57 1 rfl rfl dX7_seaOf_56 rfl ?_
        refine V_callV (K' := 0) (S' := 0) 60 26 3 1 [.int (nI g)] mkX3_menAt lkX7_47 (by decide) rfl rfl (by decide) rfl (Nat.le_of_ble_eq_true rfl) (Nat.le_of_ble_eq_true rfl) (Nat.le_of_ble_eq_true rfl) (Nat.le_of_ble_eq_true rfl) rfl rfl dX7_seaOf_57 rfl (c_X3_menAt_26 hRK (hD1.fr (fun a h1 h2 => up2_n _ _ _ (by omega))) ?_)
        refine Kq_i (k' := 0) (sl' := 0) rfl rfl ?_
        refine V_callS (K' := 0) (S' := 0) 63 1 [.int (mAtF D (nI g) 6)] mkJ6_bitCount_0f7a4 lkX7_51 rfl (Nat.le_of_ble_eq_true rfl) (Nat.le_of_ble_eq_true rfl) (Nat.le_of_ble_eq_true rfl) (Nat.le_of_ble_eq_true rfl) rfl rfl dX7_seaOf_60 rfl (c_J6_bitCount ?_)
        refine Kq_i (k' := 0) (sl' := 0) rfl rfl ?_
        refine V_iconst 64 (1) rfl dX7_seaOf_63 rfl ?_
        refine V_isub 65 dX7_seaOf_64 rfl ?_
        refine V_iastN 66 16 8 6 (by omega) (by decide) rfl (by decide) dX7_seaOf_65 rfl ?_
        refine V_aload_n 67 2 rfl _ rfl rfl dX7_seaOf_66 rfl ?_
        refine V_getR 70 3 7 1 11 hR3l flX7_21 rfl rfl rfl (by decide) dX7_seaOf_67 rfl ?_
        refine V_aload_n 71 2 rfl _ rfl rfl dX7_seaOf_70 rfl ?_
        refine V_getR 74 3 7 2 16 hR32 flX7_25 rfl rfl rfl (by decide) dX7_seaOf_71 rfl ?_
        have hfx : f ((up2 (up2 I1 16 2 (D (12 + m))) 16 6 ((bcI (mAtF D (nI g) 6)) - 1)) 16) = f (seaV K D m h g) := hL.ext _ _ (fun k hk => by rcases (show k = 0 ∨ k = 1 ∨ k = 2 ∨ k = 3 ∨ k = 4 ∨ k = 5 ∨ k = 6 ∨ k = 7 by omega) with rfl | rfl | rfl | rfl | rfl | rfl | rfl | rfl <;> first | rfl | exact hV1 _ hk)
        refine V_callV (K' := 0) (S' := 0) 77 11 5 1 [rf G 16] mkX5_seaBy lkX7_56 (by decide) rfl rfl (by decide) rfl (Nat.le_of_ble_eq_true rfl) (Nat.le_of_ble_eq_true rfl) (Nat.le_of_ble_eq_true rfl) (Nat.le_of_ble_eq_true rfl) rfl rfl dX7_seaOf_74 rfl (c_X5_seaBy hRK hl0 (hL.fr (fun a h1 h2 => by rw [up2_n _ _ _ (by omega), up2_n _ _ _ (by omega)]; exact hI1 a (by omega))) (fun I2 hI2 => ?_))
        rw [hfx]
        refine Kq_i (k' := 0) (sl' := 0) rfl rfl ?_
        refine V_ret_i rfl rfl (Nat.le_refl _) (fun h => absurd h (by decide)) (Nat.le_refl _) (hq I2 (fun a h1 h2 => by rw [hI2 a h2, up2_n _ _ _ h1, up2_n _ _ _ h1]; exact hI1 a h1)) dX7_seaOf_77
      · show V _ _ _ _ _ _ _ _ [(0, rf G 3), (1, rf G 26), (2, .int (nI m))] [] _ _ _ _ _
        refine V_aload_n 1 1 rfl _ rfl rfl dX7_seaOf_0 rfl ?_
        refine V_getR 4 26 3 2 29 (hRK 26 2 (by decide) (by decide) (by decide)) flX7_32 rfl rfl rfl (by decide) dX7_seaOf_1 rfl ?_
        refine V_iload_n 5 2 rfl rfl dX7_seaOf_4 rfl ?_
        refine V_ialdN 6 29 6 m (nI g) ((hD.2.2.1 m hm6).trans e1) (by omega) (by decide) rfl (by decide) dX7_seaOf_5 rfl ?_
        refine V_istore_n 7 [(3, .int (nI g)), (0, rf G 3), (1, rf G 26), (2, .int (nI m))] (by decide) rfl rfl dX7_seaOf_6 rfl ?_
        refine V_aload_n 8 2 rfl _ rfl rfl dX7_seaOf_7 rfl ?_
        refine V_getR 11 26 3 1 28 (hRK 26 1 (by decide) (by decide) (by decide)) flX7_37 rfl rfl rfl (by decide) dX7_seaOf_8 rfl ?_
        refine V_iload_n 12 3 rfl rfl dX7_seaOf_11 rfl ?_
        refine V_ialdN 13 28 6 m (nI h) ((hD.2.1 m hm6).trans e2) (by omega) (by decide) rfl (by decide) dX7_seaOf_12 rfl ?_
        refine V_istore 15 [(4, .int (nI h)), (3, .int (nI g)), (0, rf G 3), (1, rf G 26), (2, .int (nI m))] (by decide) rfl dX7_seaOf_13 rfl ?_
        refine V_iload_n 16 1 rfl rfl dX7_seaOf_15 rfl ?_
        refine V_iconst 17 (-1) rfl dX7_seaOf_16 rfl ?_
        refine V_icmp_eq 26 20 rfl dX7_seaOf_17 rfl (fun c17 => absurd c17 (nI_ne (by omega))) (fun c17 => ?_)
        refine V_iload 22 0 rfl dX7_seaOf_20 rfl ?_
        refine V_iconst 23 (-1) rfl dX7_seaOf_22 rfl ?_
        refine V_icmp_ne 28 26 rfl dX7_seaOf_23 rfl (fun c23 => ?_) (fun c23 => absurd c23 (nI_ne (by omega)))
        refine V_aload_n 29 2 rfl _ rfl rfl dX7_seaOf_28 rfl ?_
        refine V_aload_n 30 3 rfl _ rfl rfl dX7_seaOf_29 rfl ?_
        refine V_iload_n 31 4 rfl rfl dX7_seaOf_30 rfl ?_
        refine V_iload 33 0 rfl dX7_seaOf_31 rfl ?_
        refine V_iload_n 34 1 rfl rfl dX7_seaOf_33 rfl ?_
        refine V_callV (K' := 0) (S' := 0) 37 3 7 4 [rf G 26, .int (nI m), .int (nI h), .int (nI g)] mkX7_standAlone lkX7_40 (by decide) rfl rfl (by decide) rfl (Nat.le_of_ble_eq_true rfl) (Nat.le_of_ble_eq_true rfl) (Nat.le_of_ble_eq_true rfl) (Nat.le_of_ble_eq_true rfl) rfl rfl dX7_seaOf_34 rfl (c_X7_standAlone hRK hR3c hR3l hR32 hR33 hc0 ho0 hC hW hD hm hh hg (fun I1 hI1 hV1 => ?_))
        refine Kq_v (k' := 0) (sl' := 0) rfl rfl ?_
        have hD1 : DayC I1 26 D := hD.fr (fun a h1 h2 => hI1 a (by omega))
        refine V_aload_n 38 2 rfl _ rfl rfl dX7_seaOf_37 rfl ?_
        refine V_getR 41 3 7 2 16 hR32 flX7_25 rfl rfl rfl (by decide) dX7_seaOf_38 rfl ?_
        refine V_iconst 42 (2) rfl dX7_seaOf_41 rfl ?_
        refine V_aload_n 43 3 rfl _ rfl rfl dX7_seaOf_42 rfl ?_
        refine V_getR 46 26 3 3 30 (hRK 26 3 (by decide) (by decide) (by decide)) flX7_44 rfl rfl rfl (by decide) dX7_seaOf_43 rfl ?_
        refine V_iload_n 47 4 rfl rfl dX7_seaOf_46 rfl ?_
        refine V_ialdN 48 30 6 m (D (12 + m)) (hD1.2.2.2.1 m hm6) (by omega) (by decide) rfl (by decide) dX7_seaOf_47 rfl ?_
        refine V_iastN 49 16 8 2 (by omega) (by decide) rfl (by decide) dX7_seaOf_48 rfl ?_
        refine V_aload_n 50 2 rfl _ rfl rfl dX7_seaOf_49 rfl ?_
        refine V_getR 53 3 7 2 16 hR32 flX7_25 rfl rfl rfl (by decide) dX7_seaOf_50 rfl ?_
        refine V_bipush 55 (6) rfl dX7_seaOf_53 rfl ?_
        refine V_aload_n 56 3 rfl _ rfl rfl dX7_seaOf_55 rfl ?_
        refine V_iload_n 57 1 rfl rfl dX7_seaOf_56 rfl ?_
        refine V_callV (K' := 0) (S' := 0) 60 26 3 1 [.int (nI g)] mkX3_menAt lkX7_47 (by decide) rfl rfl (by decide) rfl (Nat.le_of_ble_eq_true rfl) (Nat.le_of_ble_eq_true rfl) (Nat.le_of_ble_eq_true rfl) (Nat.le_of_ble_eq_true rfl) rfl rfl dX7_seaOf_57 rfl (c_X3_menAt_26 hRK (hD1.fr (fun a h1 h2 => up2_n _ _ _ (by omega))) ?_)
        refine Kq_i (k' := 0) (sl' := 0) rfl rfl ?_
        refine V_callS (K' := 0) (S' := 0) 63 1 [.int (mAtF D (nI g) 6)] mkJ6_bitCount_0f7a4 lkX7_51 rfl (Nat.le_of_ble_eq_true rfl) (Nat.le_of_ble_eq_true rfl) (Nat.le_of_ble_eq_true rfl) (Nat.le_of_ble_eq_true rfl) rfl rfl dX7_seaOf_60 rfl (c_J6_bitCount ?_)
        refine Kq_i (k' := 0) (sl' := 0) rfl rfl ?_
        refine V_iconst 64 (1) rfl dX7_seaOf_63 rfl ?_
        refine V_isub 65 dX7_seaOf_64 rfl ?_
        refine V_iastN 66 16 8 6 (by omega) (by decide) rfl (by decide) dX7_seaOf_65 rfl ?_
        refine V_aload_n 67 2 rfl _ rfl rfl dX7_seaOf_66 rfl ?_
        refine V_getR 70 3 7 1 58 hR3l flX7_21 rfl rfl rfl (by decide) dX7_seaOf_67 rfl ?_
        refine V_aload_n 71 2 rfl _ rfl rfl dX7_seaOf_70 rfl ?_
        refine V_getR 74 3 7 2 16 hR32 flX7_25 rfl rfl rfl (by decide) dX7_seaOf_71 rfl ?_
        have hfx : f ((up2 (up2 I1 16 2 (D (12 + m))) 16 6 ((bcI (mAtF D (nI g) 6)) - 1)) 16) = f (seaV K D m h g) := hL.ext _ _ (fun k hk => by rcases (show k = 0 ∨ k = 1 ∨ k = 2 ∨ k = 3 ∨ k = 4 ∨ k = 5 ∨ k = 6 ∨ k = 7 by omega) with rfl | rfl | rfl | rfl | rfl | rfl | rfl | rfl <;> first | rfl | exact hV1 _ hk)
        refine V_callV (K' := 0) (S' := 0) 77 58 5 1 [rf G 16] mkX5_seaBy lkX7_56 (by decide) rfl rfl (by decide) rfl (Nat.le_of_ble_eq_true rfl) (Nat.le_of_ble_eq_true rfl) (Nat.le_of_ble_eq_true rfl) (Nat.le_of_ble_eq_true rfl) rfl rfl dX7_seaOf_74 rfl (c_X5_seaBy hRK hl0 (hL.fr (fun a h1 h2 => by rw [up2_n _ _ _ (by omega), up2_n _ _ _ (by omega)]; exact hI1 a (by omega))) (fun I2 hI2 => ?_))
        rw [hfx]
        refine Kq_i (k' := 0) (sl' := 0) rfl rfl ?_
        refine V_ret_i rfl rfl (Nat.le_refl _) (fun h => absurd h (by decide)) (Nat.le_refl _) (hq I2 (fun a h1 h2 => by rw [hI2 a h2, up2_n _ _ _ h1, up2_n _ _ _ h1]; exact hI1 a h1)) dX7_seaOf_77
      · show V _ _ _ _ _ _ _ _ [(0, rf G 3), (1, rf G 18), (2, .int (nI m))] [] _ _ _ _ _
        refine V_aload_n 1 1 rfl _ rfl rfl dX7_seaOf_0 rfl ?_
        refine V_getR 4 18 3 2 21 (hRK 18 2 (by decide) (by decide) (by decide)) flX7_32 rfl rfl rfl (by decide) dX7_seaOf_1 rfl ?_
        refine V_iload_n 5 2 rfl rfl dX7_seaOf_4 rfl ?_
        refine V_ialdN 6 21 6 m (nI g) ((hD.2.2.1 m hm6).trans e1) (by omega) (by decide) rfl (by decide) dX7_seaOf_5 rfl ?_
        refine V_istore_n 7 [(3, .int (nI g)), (0, rf G 3), (1, rf G 18), (2, .int (nI m))] (by decide) rfl rfl dX7_seaOf_6 rfl ?_
        refine V_aload_n 8 2 rfl _ rfl rfl dX7_seaOf_7 rfl ?_
        refine V_getR 11 18 3 1 20 (hRK 18 1 (by decide) (by decide) (by decide)) flX7_37 rfl rfl rfl (by decide) dX7_seaOf_8 rfl ?_
        refine V_iload_n 12 3 rfl rfl dX7_seaOf_11 rfl ?_
        refine V_ialdN 13 20 6 m (nI h) ((hD.2.1 m hm6).trans e2) (by omega) (by decide) rfl (by decide) dX7_seaOf_12 rfl ?_
        refine V_istore 15 [(4, .int (nI h)), (3, .int (nI g)), (0, rf G 3), (1, rf G 18), (2, .int (nI m))] (by decide) rfl dX7_seaOf_13 rfl ?_
        refine V_iload_n 16 1 rfl rfl dX7_seaOf_15 rfl ?_
        refine V_iconst 17 (-1) rfl dX7_seaOf_16 rfl ?_
        refine V_icmp_eq 26 20 rfl dX7_seaOf_17 rfl (fun c17 => absurd c17 (nI_ne (by omega))) (fun c17 => ?_)
        refine V_iload 22 0 rfl dX7_seaOf_20 rfl ?_
        refine V_iconst 23 (-1) rfl dX7_seaOf_22 rfl ?_
        refine V_icmp_ne 28 26 rfl dX7_seaOf_23 rfl (fun c23 => ?_) (fun c23 => absurd c23 (nI_ne (by omega)))
        refine V_aload_n 29 2 rfl _ rfl rfl dX7_seaOf_28 rfl ?_
        refine V_aload_n 30 3 rfl _ rfl rfl dX7_seaOf_29 rfl ?_
        refine V_iload_n 31 4 rfl rfl dX7_seaOf_30 rfl ?_
        refine V_iload 33 0 rfl dX7_seaOf_31 rfl ?_
        refine V_iload_n 34 1 rfl rfl dX7_seaOf_33 rfl ?_
        refine V_callV (K' := 0) (S' := 0) 37 3 7 4 [rf G 18, .int (nI m), .int (nI h), .int (nI g)] mkX7_standAlone lkX7_40 (by decide) rfl rfl (by decide) rfl (Nat.le_of_ble_eq_true rfl) (Nat.le_of_ble_eq_true rfl) (Nat.le_of_ble_eq_true rfl) (Nat.le_of_ble_eq_true rfl) rfl rfl dX7_seaOf_34 rfl (c_X7_standAlone hRK hR3c hR3l hR32 hR33 hc0 ho0 hC hW hD hm hh hg (fun I1 hI1 hV1 => ?_))
        refine Kq_v (k' := 0) (sl' := 0) rfl rfl ?_
        have hD1 : DayC I1 18 D := hD.fr (fun a h1 h2 => hI1 a (by omega))
        refine V_aload_n 38 2 rfl _ rfl rfl dX7_seaOf_37 rfl ?_
        refine V_getR 41 3 7 2 16 hR32 flX7_25 rfl rfl rfl (by decide) dX7_seaOf_38 rfl ?_
        refine V_iconst 42 (2) rfl dX7_seaOf_41 rfl ?_
        refine V_aload_n 43 3 rfl _ rfl rfl dX7_seaOf_42 rfl ?_
        refine V_getR 46 18 3 3 22 (hRK 18 3 (by decide) (by decide) (by decide)) flX7_44 rfl rfl rfl (by decide) dX7_seaOf_43 rfl ?_
        refine V_iload_n 47 4 rfl rfl dX7_seaOf_46 rfl ?_
        refine V_ialdN 48 22 6 m (D (12 + m)) (hD1.2.2.2.1 m hm6) (by omega) (by decide) rfl (by decide) dX7_seaOf_47 rfl ?_
        refine V_iastN 49 16 8 2 (by omega) (by decide) rfl (by decide) dX7_seaOf_48 rfl ?_
        refine V_aload_n 50 2 rfl _ rfl rfl dX7_seaOf_49 rfl ?_
        refine V_getR 53 3 7 2 16 hR32 flX7_25 rfl rfl rfl (by decide) dX7_seaOf_50 rfl ?_
        refine V_bipush 55 (6) rfl dX7_seaOf_53 rfl ?_
        refine V_aload_n 56 3 rfl _ rfl rfl dX7_seaOf_55 rfl ?_
        refine V_iload_n 57 1 rfl rfl dX7_seaOf_56 rfl ?_
        refine V_callV (K' := 0) (S' := 0) 60 18 3 1 [.int (nI g)] mkX3_menAt lkX7_47 (by decide) rfl rfl (by decide) rfl (Nat.le_of_ble_eq_true rfl) (Nat.le_of_ble_eq_true rfl) (Nat.le_of_ble_eq_true rfl) (Nat.le_of_ble_eq_true rfl) rfl rfl dX7_seaOf_57 rfl (c_X3_menAt_18 hRK (hD1.fr (fun a h1 h2 => up2_n _ _ _ (by omega))) ?_)
        refine Kq_i (k' := 0) (sl' := 0) rfl rfl ?_
        refine V_callS (K' := 0) (S' := 0) 63 1 [.int (mAtF D (nI g) 6)] mkJ6_bitCount_0f7a4 lkX7_51 rfl (Nat.le_of_ble_eq_true rfl) (Nat.le_of_ble_eq_true rfl) (Nat.le_of_ble_eq_true rfl) (Nat.le_of_ble_eq_true rfl) rfl rfl dX7_seaOf_60 rfl (c_J6_bitCount ?_)
        refine Kq_i (k' := 0) (sl' := 0) rfl rfl ?_
        refine V_iconst 64 (1) rfl dX7_seaOf_63 rfl ?_
        refine V_isub 65 dX7_seaOf_64 rfl ?_
        refine V_iastN 66 16 8 6 (by omega) (by decide) rfl (by decide) dX7_seaOf_65 rfl ?_
        refine V_aload_n 67 2 rfl _ rfl rfl dX7_seaOf_66 rfl ?_
        refine V_getR 70 3 7 1 11 hR3l flX7_21 rfl rfl rfl (by decide) dX7_seaOf_67 rfl ?_
        refine V_aload_n 71 2 rfl _ rfl rfl dX7_seaOf_70 rfl ?_
        refine V_getR 74 3 7 2 16 hR32 flX7_25 rfl rfl rfl (by decide) dX7_seaOf_71 rfl ?_
        have hfx : f ((up2 (up2 I1 16 2 (D (12 + m))) 16 6 ((bcI (mAtF D (nI g) 6)) - 1)) 16) = f (seaV K D m h g) := hL.ext _ _ (fun k hk => by rcases (show k = 0 ∨ k = 1 ∨ k = 2 ∨ k = 3 ∨ k = 4 ∨ k = 5 ∨ k = 6 ∨ k = 7 by omega) with rfl | rfl | rfl | rfl | rfl | rfl | rfl | rfl <;> first | rfl | exact hV1 _ hk)
        refine V_callV (K' := 0) (S' := 0) 77 11 5 1 [rf G 16] mkX5_seaBy lkX7_56 (by decide) rfl rfl (by decide) rfl (Nat.le_of_ble_eq_true rfl) (Nat.le_of_ble_eq_true rfl) (Nat.le_of_ble_eq_true rfl) (Nat.le_of_ble_eq_true rfl) rfl rfl dX7_seaOf_74 rfl (c_X5_seaBy hRK hl0 (hL.fr (fun a h1 h2 => by rw [up2_n _ _ _ (by omega), up2_n _ _ _ (by omega)]; exact hI1 a (by omega))) (fun I2 hI2 => ?_))
        rw [hfx]
        refine Kq_i (k' := 0) (sl' := 0) rfl rfl ?_
        refine V_ret_i rfl rfl (Nat.le_refl _) (fun h => absurd h (by decide)) (Nat.le_refl _) (hq I2 (fun a h1 h2 => by rw [hI2 a h2, up2_n _ _ _ h1, up2_n _ _ _ h1]; exact hI1 a h1)) dX7_seaOf_77
      · show V _ _ _ _ _ _ _ _ [(0, rf G 3), (1, rf G 18), (2, .int (nI m))] [] _ _ _ _ _
        refine V_aload_n 1 1 rfl _ rfl rfl dX7_seaOf_0 rfl ?_
        refine V_getR 4 18 3 2 21 (hRK 18 2 (by decide) (by decide) (by decide)) flX7_32 rfl rfl rfl (by decide) dX7_seaOf_1 rfl ?_
        refine V_iload_n 5 2 rfl rfl dX7_seaOf_4 rfl ?_
        refine V_ialdN 6 21 6 m (nI g) ((hD.2.2.1 m hm6).trans e1) (by omega) (by decide) rfl (by decide) dX7_seaOf_5 rfl ?_
        refine V_istore_n 7 [(3, .int (nI g)), (0, rf G 3), (1, rf G 18), (2, .int (nI m))] (by decide) rfl rfl dX7_seaOf_6 rfl ?_
        refine V_aload_n 8 2 rfl _ rfl rfl dX7_seaOf_7 rfl ?_
        refine V_getR 11 18 3 1 20 (hRK 18 1 (by decide) (by decide) (by decide)) flX7_37 rfl rfl rfl (by decide) dX7_seaOf_8 rfl ?_
        refine V_iload_n 12 3 rfl rfl dX7_seaOf_11 rfl ?_
        refine V_ialdN 13 20 6 m (nI h) ((hD.2.1 m hm6).trans e2) (by omega) (by decide) rfl (by decide) dX7_seaOf_12 rfl ?_
        refine V_istore 15 [(4, .int (nI h)), (3, .int (nI g)), (0, rf G 3), (1, rf G 18), (2, .int (nI m))] (by decide) rfl dX7_seaOf_13 rfl ?_
        refine V_iload_n 16 1 rfl rfl dX7_seaOf_15 rfl ?_
        refine V_iconst 17 (-1) rfl dX7_seaOf_16 rfl ?_
        refine V_icmp_eq 26 20 rfl dX7_seaOf_17 rfl (fun c17 => absurd c17 (nI_ne (by omega))) (fun c17 => ?_)
        refine V_iload 22 0 rfl dX7_seaOf_20 rfl ?_
        refine V_iconst 23 (-1) rfl dX7_seaOf_22 rfl ?_
        refine V_icmp_ne 28 26 rfl dX7_seaOf_23 rfl (fun c23 => ?_) (fun c23 => absurd c23 (nI_ne (by omega)))
        refine V_aload_n 29 2 rfl _ rfl rfl dX7_seaOf_28 rfl ?_
        refine V_aload_n 30 3 rfl _ rfl rfl dX7_seaOf_29 rfl ?_
        refine V_iload_n 31 4 rfl rfl dX7_seaOf_30 rfl ?_
        refine V_iload 33 0 rfl dX7_seaOf_31 rfl ?_
        refine V_iload_n 34 1 rfl rfl dX7_seaOf_33 rfl ?_
        refine V_callV (K' := 0) (S' := 0) 37 3 7 4 [rf G 18, .int (nI m), .int (nI h), .int (nI g)] mkX7_standAlone lkX7_40 (by decide) rfl rfl (by decide) rfl (Nat.le_of_ble_eq_true rfl) (Nat.le_of_ble_eq_true rfl) (Nat.le_of_ble_eq_true rfl) (Nat.le_of_ble_eq_true rfl) rfl rfl dX7_seaOf_34 rfl (c_X7_standAlone hRK hR3c hR3l hR32 hR33 hc0 ho0 hC hW hD hm hh hg (fun I1 hI1 hV1 => ?_))
        refine Kq_v (k' := 0) (sl' := 0) rfl rfl ?_
        have hD1 : DayC I1 18 D := hD.fr (fun a h1 h2 => hI1 a (by omega))
        refine V_aload_n 38 2 rfl _ rfl rfl dX7_seaOf_37 rfl ?_
        refine V_getR 41 3 7 2 16 hR32 flX7_25 rfl rfl rfl (by decide) dX7_seaOf_38 rfl ?_
        refine V_iconst 42 (2) rfl dX7_seaOf_41 rfl ?_
        refine V_aload_n 43 3 rfl _ rfl rfl dX7_seaOf_42 rfl ?_
        refine V_getR 46 18 3 3 22 (hRK 18 3 (by decide) (by decide) (by decide)) flX7_44 rfl rfl rfl (by decide) dX7_seaOf_43 rfl ?_
        refine V_iload_n 47 4 rfl rfl dX7_seaOf_46 rfl ?_
        refine V_ialdN 48 22 6 m (D (12 + m)) (hD1.2.2.2.1 m hm6) (by omega) (by decide) rfl (by decide) dX7_seaOf_47 rfl ?_
        refine V_iastN 49 16 8 2 (by omega) (by decide) rfl (by decide) dX7_seaOf_48 rfl ?_
        refine V_aload_n 50 2 rfl _ rfl rfl dX7_seaOf_49 rfl ?_
        refine V_getR 53 3 7 2 16 hR32 flX7_25 rfl rfl rfl (by decide) dX7_seaOf_50 rfl ?_
        refine V_bipush 55 (6) rfl dX7_seaOf_53 rfl ?_
        refine V_aload_n 56 3 rfl _ rfl rfl dX7_seaOf_55 rfl ?_
        refine V_iload_n 57 1 rfl rfl dX7_seaOf_56 rfl ?_
        refine V_callV (K' := 0) (S' := 0) 60 18 3 1 [.int (nI g)] mkX3_menAt lkX7_47 (by decide) rfl rfl (by decide) rfl (Nat.le_of_ble_eq_true rfl) (Nat.le_of_ble_eq_true rfl) (Nat.le_of_ble_eq_true rfl) (Nat.le_of_ble_eq_true rfl) rfl rfl dX7_seaOf_57 rfl (c_X3_menAt_18 hRK (hD1.fr (fun a h1 h2 => up2_n _ _ _ (by omega))) ?_)
        refine Kq_i (k' := 0) (sl' := 0) rfl rfl ?_
        refine V_callS (K' := 0) (S' := 0) 63 1 [.int (mAtF D (nI g) 6)] mkJ6_bitCount_0f7a4 lkX7_51 rfl (Nat.le_of_ble_eq_true rfl) (Nat.le_of_ble_eq_true rfl) (Nat.le_of_ble_eq_true rfl) (Nat.le_of_ble_eq_true rfl) rfl rfl dX7_seaOf_60 rfl (c_J6_bitCount ?_)
        refine Kq_i (k' := 0) (sl' := 0) rfl rfl ?_
        refine V_iconst 64 (1) rfl dX7_seaOf_63 rfl ?_
        refine V_isub 65 dX7_seaOf_64 rfl ?_
        refine V_iastN 66 16 8 6 (by omega) (by decide) rfl (by decide) dX7_seaOf_65 rfl ?_
        refine V_aload_n 67 2 rfl _ rfl rfl dX7_seaOf_66 rfl ?_
        refine V_getR 70 3 7 1 58 hR3l flX7_21 rfl rfl rfl (by decide) dX7_seaOf_67 rfl ?_
        refine V_aload_n 71 2 rfl _ rfl rfl dX7_seaOf_70 rfl ?_
        refine V_getR 74 3 7 2 16 hR32 flX7_25 rfl rfl rfl (by decide) dX7_seaOf_71 rfl ?_
        have hfx : f ((up2 (up2 I1 16 2 (D (12 + m))) 16 6 ((bcI (mAtF D (nI g) 6)) - 1)) 16) = f (seaV K D m h g) := hL.ext _ _ (fun k hk => by rcases (show k = 0 ∨ k = 1 ∨ k = 2 ∨ k = 3 ∨ k = 4 ∨ k = 5 ∨ k = 6 ∨ k = 7 by omega) with rfl | rfl | rfl | rfl | rfl | rfl | rfl | rfl <;> first | rfl | exact hV1 _ hk)
        refine V_callV (K' := 0) (S' := 0) 77 58 5 1 [rf G 16] mkX5_seaBy lkX7_56 (by decide) rfl rfl (by decide) rfl (Nat.le_of_ble_eq_true rfl) (Nat.le_of_ble_eq_true rfl) (Nat.le_of_ble_eq_true rfl) (Nat.le_of_ble_eq_true rfl) rfl rfl dX7_seaOf_74 rfl (c_X5_seaBy hRK hl0 (hL.fr (fun a h1 h2 => by rw [up2_n _ _ _ (by omega), up2_n _ _ _ (by omega)]; exact hI1 a (by omega))) (fun I2 hI2 => ?_))
        rw [hfx]
        refine Kq_i (k' := 0) (sl' := 0) rfl rfl ?_
        refine V_ret_i rfl rfl (Nat.le_refl _) (fun h => absurd h (by decide)) (Nat.le_refl _) (hq I2 (fun a h1 h2 => by rw [hI2 a h2, up2_n _ _ _ h1, up2_n _ _ _ h1]; exact hI1 a h1)) dX7_seaOf_77
      · show V _ _ _ _ _ _ _ _ [(0, rf G 3), (1, rf G 26), (2, .int (nI m))] [] _ _ _ _ _
        refine V_aload_n 1 1 rfl _ rfl rfl dX7_seaOf_0 rfl ?_
        refine V_getR 4 26 3 2 29 (hRK 26 2 (by decide) (by decide) (by decide)) flX7_32 rfl rfl rfl (by decide) dX7_seaOf_1 rfl ?_
        refine V_iload_n 5 2 rfl rfl dX7_seaOf_4 rfl ?_
        refine V_ialdN 6 29 6 m (nI g) ((hD.2.2.1 m hm6).trans e1) (by omega) (by decide) rfl (by decide) dX7_seaOf_5 rfl ?_
        refine V_istore_n 7 [(3, .int (nI g)), (0, rf G 3), (1, rf G 26), (2, .int (nI m))] (by decide) rfl rfl dX7_seaOf_6 rfl ?_
        refine V_aload_n 8 2 rfl _ rfl rfl dX7_seaOf_7 rfl ?_
        refine V_getR 11 26 3 1 28 (hRK 26 1 (by decide) (by decide) (by decide)) flX7_37 rfl rfl rfl (by decide) dX7_seaOf_8 rfl ?_
        refine V_iload_n 12 3 rfl rfl dX7_seaOf_11 rfl ?_
        refine V_ialdN 13 28 6 m (nI h) ((hD.2.1 m hm6).trans e2) (by omega) (by decide) rfl (by decide) dX7_seaOf_12 rfl ?_
        refine V_istore 15 [(4, .int (nI h)), (3, .int (nI g)), (0, rf G 3), (1, rf G 26), (2, .int (nI m))] (by decide) rfl dX7_seaOf_13 rfl ?_
        refine V_iload_n 16 1 rfl rfl dX7_seaOf_15 rfl ?_
        refine V_iconst 17 (-1) rfl dX7_seaOf_16 rfl ?_
        refine V_icmp_eq 26 20 rfl dX7_seaOf_17 rfl (fun c17 => absurd c17 (nI_ne (by omega))) (fun c17 => ?_)
        refine V_iload 22 0 rfl dX7_seaOf_20 rfl ?_
        refine V_iconst 23 (-1) rfl dX7_seaOf_22 rfl ?_
        refine V_icmp_ne 28 26 rfl dX7_seaOf_23 rfl (fun c23 => ?_) (fun c23 => absurd c23 (nI_ne (by omega)))
        refine V_aload_n 29 2 rfl _ rfl rfl dX7_seaOf_28 rfl ?_
        refine V_aload_n 30 3 rfl _ rfl rfl dX7_seaOf_29 rfl ?_
        refine V_iload_n 31 4 rfl rfl dX7_seaOf_30 rfl ?_
        refine V_iload 33 0 rfl dX7_seaOf_31 rfl ?_
        refine V_iload_n 34 1 rfl rfl dX7_seaOf_33 rfl ?_
        refine V_callV (K' := 0) (S' := 0) 37 3 7 4 [rf G 26, .int (nI m), .int (nI h), .int (nI g)] mkX7_standAlone lkX7_40 (by decide) rfl rfl (by decide) rfl (Nat.le_of_ble_eq_true rfl) (Nat.le_of_ble_eq_true rfl) (Nat.le_of_ble_eq_true rfl) (Nat.le_of_ble_eq_true rfl) rfl rfl dX7_seaOf_34 rfl (c_X7_standAlone hRK hR3c hR3l hR32 hR33 hc0 ho0 hC hW hD hm hh hg (fun I1 hI1 hV1 => ?_))
        refine Kq_v (k' := 0) (sl' := 0) rfl rfl ?_
        have hD1 : DayC I1 26 D := hD.fr (fun a h1 h2 => hI1 a (by omega))
        refine V_aload_n 38 2 rfl _ rfl rfl dX7_seaOf_37 rfl ?_
        refine V_getR 41 3 7 2 16 hR32 flX7_25 rfl rfl rfl (by decide) dX7_seaOf_38 rfl ?_
        refine V_iconst 42 (2) rfl dX7_seaOf_41 rfl ?_
        refine V_aload_n 43 3 rfl _ rfl rfl dX7_seaOf_42 rfl ?_
        refine V_getR 46 26 3 3 30 (hRK 26 3 (by decide) (by decide) (by decide)) flX7_44 rfl rfl rfl (by decide) dX7_seaOf_43 rfl ?_
        refine V_iload_n 47 4 rfl rfl dX7_seaOf_46 rfl ?_
        refine V_ialdN 48 30 6 m (D (12 + m)) (hD1.2.2.2.1 m hm6) (by omega) (by decide) rfl (by decide) dX7_seaOf_47 rfl ?_
        refine V_iastN 49 16 8 2 (by omega) (by decide) rfl (by decide) dX7_seaOf_48 rfl ?_
        refine V_aload_n 50 2 rfl _ rfl rfl dX7_seaOf_49 rfl ?_
        refine V_getR 53 3 7 2 16 hR32 flX7_25 rfl rfl rfl (by decide) dX7_seaOf_50 rfl ?_
        refine V_bipush 55 (6) rfl dX7_seaOf_53 rfl ?_
        refine V_aload_n 56 3 rfl _ rfl rfl dX7_seaOf_55 rfl ?_
        refine V_iload_n 57 1 rfl rfl dX7_seaOf_56 rfl ?_
        refine V_callV (K' := 0) (S' := 0) 60 26 3 1 [.int (nI g)] mkX3_menAt lkX7_47 (by decide) rfl rfl (by decide) rfl (Nat.le_of_ble_eq_true rfl) (Nat.le_of_ble_eq_true rfl) (Nat.le_of_ble_eq_true rfl) (Nat.le_of_ble_eq_true rfl) rfl rfl dX7_seaOf_57 rfl (c_X3_menAt_26 hRK (hD1.fr (fun a h1 h2 => up2_n _ _ _ (by omega))) ?_)
        refine Kq_i (k' := 0) (sl' := 0) rfl rfl ?_
        refine V_callS (K' := 0) (S' := 0) 63 1 [.int (mAtF D (nI g) 6)] mkJ6_bitCount_0f7a4 lkX7_51 rfl (Nat.le_of_ble_eq_true rfl) (Nat.le_of_ble_eq_true rfl) (Nat.le_of_ble_eq_true rfl) (Nat.le_of_ble_eq_true rfl) rfl rfl dX7_seaOf_60 rfl (c_J6_bitCount ?_)
        refine Kq_i (k' := 0) (sl' := 0) rfl rfl ?_
        refine V_iconst 64 (1) rfl dX7_seaOf_63 rfl ?_
        refine V_isub 65 dX7_seaOf_64 rfl ?_
        refine V_iastN 66 16 8 6 (by omega) (by decide) rfl (by decide) dX7_seaOf_65 rfl ?_
        refine V_aload_n 67 2 rfl _ rfl rfl dX7_seaOf_66 rfl ?_
        refine V_getR 70 3 7 1 11 hR3l flX7_21 rfl rfl rfl (by decide) dX7_seaOf_67 rfl ?_
        refine V_aload_n 71 2 rfl _ rfl rfl dX7_seaOf_70 rfl ?_
        refine V_getR 74 3 7 2 16 hR32 flX7_25 rfl rfl rfl (by decide) dX7_seaOf_71 rfl ?_
        have hfx : f ((up2 (up2 I1 16 2 (D (12 + m))) 16 6 ((bcI (mAtF D (nI g) 6)) - 1)) 16) = f (seaV K D m h g) := hL.ext _ _ (fun k hk => by rcases (show k = 0 ∨ k = 1 ∨ k = 2 ∨ k = 3 ∨ k = 4 ∨ k = 5 ∨ k = 6 ∨ k = 7 by omega) with rfl | rfl | rfl | rfl | rfl | rfl | rfl | rfl <;> first | rfl | exact hV1 _ hk)
        refine V_callV (K' := 0) (S' := 0) 77 11 5 1 [rf G 16] mkX5_seaBy lkX7_56 (by decide) rfl rfl (by decide) rfl (Nat.le_of_ble_eq_true rfl) (Nat.le_of_ble_eq_true rfl) (Nat.le_of_ble_eq_true rfl) (Nat.le_of_ble_eq_true rfl) rfl rfl dX7_seaOf_74 rfl (c_X5_seaBy hRK hl0 (hL.fr (fun a h1 h2 => by rw [up2_n _ _ _ (by omega), up2_n _ _ _ (by omega)]; exact hI1 a (by omega))) (fun I2 hI2 => ?_))
        rw [hfx]
        refine Kq_i (k' := 0) (sl' := 0) rfl rfl ?_
        refine V_ret_i rfl rfl (Nat.le_refl _) (fun h => absurd h (by decide)) (Nat.le_refl _) (hq I2 (fun a h1 h2 => by rw [hI2 a h2, up2_n _ _ _ h1, up2_n _ _ _ h1]; exact hI1 a h1)) dX7_seaOf_77
      · show V _ _ _ _ _ _ _ _ [(0, rf G 3), (1, rf G 26), (2, .int (nI m))] [] _ _ _ _ _
        refine V_aload_n 1 1 rfl _ rfl rfl dX7_seaOf_0 rfl ?_
        refine V_getR 4 26 3 2 29 (hRK 26 2 (by decide) (by decide) (by decide)) flX7_32 rfl rfl rfl (by decide) dX7_seaOf_1 rfl ?_
        refine V_iload_n 5 2 rfl rfl dX7_seaOf_4 rfl ?_
        refine V_ialdN 6 29 6 m (nI g) ((hD.2.2.1 m hm6).trans e1) (by omega) (by decide) rfl (by decide) dX7_seaOf_5 rfl ?_
        refine V_istore_n 7 [(3, .int (nI g)), (0, rf G 3), (1, rf G 26), (2, .int (nI m))] (by decide) rfl rfl dX7_seaOf_6 rfl ?_
        refine V_aload_n 8 2 rfl _ rfl rfl dX7_seaOf_7 rfl ?_
        refine V_getR 11 26 3 1 28 (hRK 26 1 (by decide) (by decide) (by decide)) flX7_37 rfl rfl rfl (by decide) dX7_seaOf_8 rfl ?_
        refine V_iload_n 12 3 rfl rfl dX7_seaOf_11 rfl ?_
        refine V_ialdN 13 28 6 m (nI h) ((hD.2.1 m hm6).trans e2) (by omega) (by decide) rfl (by decide) dX7_seaOf_12 rfl ?_
        refine V_istore 15 [(4, .int (nI h)), (3, .int (nI g)), (0, rf G 3), (1, rf G 26), (2, .int (nI m))] (by decide) rfl dX7_seaOf_13 rfl ?_
        refine V_iload_n 16 1 rfl rfl dX7_seaOf_15 rfl ?_
        refine V_iconst 17 (-1) rfl dX7_seaOf_16 rfl ?_
        refine V_icmp_eq 26 20 rfl dX7_seaOf_17 rfl (fun c17 => absurd c17 (nI_ne (by omega))) (fun c17 => ?_)
        refine V_iload 22 0 rfl dX7_seaOf_20 rfl ?_
        refine V_iconst 23 (-1) rfl dX7_seaOf_22 rfl ?_
        refine V_icmp_ne 28 26 rfl dX7_seaOf_23 rfl (fun c23 => ?_) (fun c23 => absurd c23 (nI_ne (by omega)))
        refine V_aload_n 29 2 rfl _ rfl rfl dX7_seaOf_28 rfl ?_
        refine V_aload_n 30 3 rfl _ rfl rfl dX7_seaOf_29 rfl ?_
        refine V_iload_n 31 4 rfl rfl dX7_seaOf_30 rfl ?_
        refine V_iload 33 0 rfl dX7_seaOf_31 rfl ?_
        refine V_iload_n 34 1 rfl rfl dX7_seaOf_33 rfl ?_
        refine V_callV (K' := 0) (S' := 0) 37 3 7 4 [rf G 26, .int (nI m), .int (nI h), .int (nI g)] mkX7_standAlone lkX7_40 (by decide) rfl rfl (by decide) rfl (Nat.le_of_ble_eq_true rfl) (Nat.le_of_ble_eq_true rfl) (Nat.le_of_ble_eq_true rfl) (Nat.le_of_ble_eq_true rfl) rfl rfl dX7_seaOf_34 rfl (c_X7_standAlone hRK hR3c hR3l hR32 hR33 hc0 ho0 hC hW hD hm hh hg (fun I1 hI1 hV1 => ?_))
        refine Kq_v (k' := 0) (sl' := 0) rfl rfl ?_
        have hD1 : DayC I1 26 D := hD.fr (fun a h1 h2 => hI1 a (by omega))
        refine V_aload_n 38 2 rfl _ rfl rfl dX7_seaOf_37 rfl ?_
        refine V_getR 41 3 7 2 16 hR32 flX7_25 rfl rfl rfl (by decide) dX7_seaOf_38 rfl ?_
        refine V_iconst 42 (2) rfl dX7_seaOf_41 rfl ?_
        refine V_aload_n 43 3 rfl _ rfl rfl dX7_seaOf_42 rfl ?_
        refine V_getR 46 26 3 3 30 (hRK 26 3 (by decide) (by decide) (by decide)) flX7_44 rfl rfl rfl (by decide) dX7_seaOf_43 rfl ?_
        refine V_iload_n 47 4 rfl rfl dX7_seaOf_46 rfl ?_
        refine V_ialdN 48 30 6 m (D (12 + m)) (hD1.2.2.2.1 m hm6) (by omega) (by decide) rfl (by decide) dX7_seaOf_47 rfl ?_
        refine V_iastN 49 16 8 2 (by omega) (by decide) rfl (by decide) dX7_seaOf_48 rfl ?_
        refine V_aload_n 50 2 rfl _ rfl rfl dX7_seaOf_49 rfl ?_
        refine V_getR 53 3 7 2 16 hR32 flX7_25 rfl rfl rfl (by decide) dX7_seaOf_50 rfl ?_
        refine V_bipush 55 (6) rfl dX7_seaOf_53 rfl ?_
        refine V_aload_n 56 3 rfl _ rfl rfl dX7_seaOf_55 rfl ?_
        refine V_iload_n 57 1 rfl rfl dX7_seaOf_56 rfl ?_
        refine V_callV (K' := 0) (S' := 0) 60 26 3 1 [.int (nI g)] mkX3_menAt lkX7_47 (by decide) rfl rfl (by decide) rfl (Nat.le_of_ble_eq_true rfl) (Nat.le_of_ble_eq_true rfl) (Nat.le_of_ble_eq_true rfl) (Nat.le_of_ble_eq_true rfl) rfl rfl dX7_seaOf_57 rfl (c_X3_menAt_26 hRK (hD1.fr (fun a h1 h2 => up2_n _ _ _ (by omega))) ?_)
        refine Kq_i (k' := 0) (sl' := 0) rfl rfl ?_
        refine V_callS (K' := 0) (S' := 0) 63 1 [.int (mAtF D (nI g) 6)] mkJ6_bitCount_0f7a4 lkX7_51 rfl (Nat.le_of_ble_eq_true rfl) (Nat.le_of_ble_eq_true rfl) (Nat.le_of_ble_eq_true rfl) (Nat.le_of_ble_eq_true rfl) rfl rfl dX7_seaOf_60 rfl (c_J6_bitCount ?_)
        refine Kq_i (k' := 0) (sl' := 0) rfl rfl ?_
        refine V_iconst 64 (1) rfl dX7_seaOf_63 rfl ?_
        refine V_isub 65 dX7_seaOf_64 rfl ?_
        refine V_iastN 66 16 8 6 (by omega) (by decide) rfl (by decide) dX7_seaOf_65 rfl ?_
        refine V_aload_n 67 2 rfl _ rfl rfl dX7_seaOf_66 rfl ?_
        refine V_getR 70 3 7 1 58 hR3l flX7_21 rfl rfl rfl (by decide) dX7_seaOf_67 rfl ?_
        refine V_aload_n 71 2 rfl _ rfl rfl dX7_seaOf_70 rfl ?_
        refine V_getR 74 3 7 2 16 hR32 flX7_25 rfl rfl rfl (by decide) dX7_seaOf_71 rfl ?_
        have hfx : f ((up2 (up2 I1 16 2 (D (12 + m))) 16 6 ((bcI (mAtF D (nI g) 6)) - 1)) 16) = f (seaV K D m h g) := hL.ext _ _ (fun k hk => by rcases (show k = 0 ∨ k = 1 ∨ k = 2 ∨ k = 3 ∨ k = 4 ∨ k = 5 ∨ k = 6 ∨ k = 7 by omega) with rfl | rfl | rfl | rfl | rfl | rfl | rfl | rfl <;> first | rfl | exact hV1 _ hk)
        refine V_callV (K' := 0) (S' := 0) 77 58 5 1 [rf G 16] mkX5_seaBy lkX7_56 (by decide) rfl rfl (by decide) rfl (Nat.le_of_ble_eq_true rfl) (Nat.le_of_ble_eq_true rfl) (Nat.le_of_ble_eq_true rfl) (Nat.le_of_ble_eq_true rfl) rfl rfl dX7_seaOf_74 rfl (c_X5_seaBy hRK hl0 (hL.fr (fun a h1 h2 => by rw [up2_n _ _ _ (by omega), up2_n _ _ _ (by omega)]; exact hI1 a (by omega))) (fun I2 hI2 => ?_))
        rw [hfx]
        refine Kq_i (k' := 0) (sl' := 0) rfl rfl ?_
        refine V_ret_i rfl rfl (Nat.le_refl _) (fun h => absurd h (by decide)) (Nat.le_refl _) (hq I2 (fun a h1 h2 => by rw [hI2 a h2, up2_n _ _ _ h1, up2_n _ _ _ h1]; exact hI1 a h1)) dX7_seaOf_77
