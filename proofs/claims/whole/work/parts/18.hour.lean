/-! ===== an hour ===== -/
def hs1 (K : CO) (S D : DV) (m : Nat) : DV := let E := upd D (18 + m) (D (18 + m) + S m); if cBt K m < E (18 + m) then (if E (30 + m) = 1 then dDie E m (cHr K m) else E) else E
def hs2 (K : CO) (S D : DV) : Nat → DV
  | 0 => D
  | m + 1 => hs1 K S (hs2 K S D m) m
def tk3 (S D : DV) : Nat → DV
  | 0 => D
  | m + 1 => dTake (tk3 S D m) m (S m)
def passD (K : CO) (f : DV → Int32) (D : DV) : DV := upd (tk3 (seaD K f D) (hs2 K (seaD K f D) D (cM K)) (cM K)) 50 (tk3 (seaD K f D) (hs2 K (seaD K f D) D (cM K)) (cM K) 50 + 1)
theorem WD.hs1 {K : CO} {S D : DV} {m : Nat} (h : WD K D) (hW : WK K) (hm : m < cM K) : WD K (hs1 K S D m) := by
  have h3 := hW.2.2.1
  have h1 : WD K (upd D (18 + m) (D (18 + m) + S m)) := h.u (by omega) (by omega)
  show WD K (if _ then (if _ then _ else _) else _)
  split
  · split
    · exact h1.die (by omega) (fun j e => by have := hW.2.2.2.1 m j e; omega)
    · exact h1
  · exact h1
theorem WD.hs2 {K : CO} {S D : DV} (h : WD K D) (hW : WK K) : ∀ m, m ≤ cM K → WD K (hs2 K S D m) := by
  intro m
  induction m with
  | zero => intro _; exact h
  | succ m ih => intro hm; exact (ih (by omega)).hs1 hW (by omega)
theorem WD.tk3 {K : CO} {S D : DV} (h : WD K D) (hW : WK K) : ∀ m, m ≤ cM K → WD K (tk3 S D m) := by
  intro m
  have h3 := hW.2.2.1
  induction m with
  | zero => intro _; exact h
  | succ m ih => intro hm; exact (ih (by omega)).take (by omega)
theorem WD.pass {K : CO} {f : DV → Int32} {D : DV} (h : WD K D) (hW : WK K) : WD K (passD K f D) := ((h.hs2 hW (cM K) (Nat.le_refl _)).tk3 hW (cM K) (Nat.le_refl _)).u (by omega) (by omega)
theorem WD.at6 {K : CO} {D : DV} (h : WD K D) (hW : WK K) {m : Nat} (hm : m < 6) : D (6 + m) = -1 ∨ ∃ g, g < 6 ∧ D (6 + m) = nI g := (h.2.2 m hm).imp id (fun ⟨g, a, b⟩ => ⟨g, by have := hW.2.1; omega, b⟩)
/-- what an hour may change of the class: facts, seas, the LAW's values, the days' own cells -/
def FrP (I I' : FI) (o l : Nat) : Prop := ∀ a, a ≠ 16 → a ≠ 17 → a ≠ l + 4 → (a < o ∨ o + 7 < a) → I' a = I a
theorem FrP.tr {I I1 I2 : FI} {o l : Nat} (h : FrP I I1 o l) (h2 : FrP I1 I2 o l) : FrP I I2 o l := fun a h3 h4 h5 h6 => (h2 a h3 h4 h5 h6).trans (h a h3 h4 h5 h6)
theorem FrP.rf {I : FI} {o l : Nat} : FrP I I o l := fun _ _ _ _ _ => rfl
theorem FrP.ofC {I I' : FI} {o l : Nat} (h : FrC I I' o) : FrP I I' o l := fun a _ _ _ h6 => h a h6
set_option maxHeartbeats 8000000 in
theorem c_X7_passHour {G : Gx} {d : Nat} {I : FI} {R : FR} {J : FJ} {Q : Po} (hRK : RK R) {c l o : Nat} (hR3c : R 3 0 = some c) (hR3l : R 3 1 = some l) (hR32 : R 3 2 = some 16) (hR33 : R 3 3 = some 17) {K : CO} {D : DV} (hc : c = 4 ∨ c = 51) {f : DV → Int32} (ho : o = 18 ∨ o = 26) (hl : l = 11 ∨ l = 58) (hC : CoastC I c K) (hW : WK K) (hD : DayC I o D) (hWD : WD K D) (hL : LawC I l f) (hq : ∀ I', DayC I' o (passD K f D) → FrP I I' o l → Q (.inl none) 103 I' R J) : Cc G mX7_passHour (d + 1 + 1 + 1) 0 0 [rf G 3, rf G o] 103 I R J Q := by
  have h6 : cM K ≤ 6 := hW.2.2.1
  have hc0 := hc; have ho0 := ho; have hl0 := hl
  have hkh : ∀ m j, cHr K m = some j → j < 6 := fun m j e => by have := hW.2.2.2.1 m j e; omega
  rcases hc with rfl | rfl <;> rcases ho with rfl | rfl <;> rcases hl with rfl | rfl
  · have L3 : ∀ i, i ≤ cM K → ∀ I1, CoastC I1 4 K → (∀ j, j < cM K → I1 17 j = seaD K f D j) → DayC I1 18 (tk3 (seaD K f D) (hs2 K (seaD K f D) D (cM K)) i) → FrP I I1 18 11 → V G mX7_passHour (d + 1 + 1 + 1) 0 0 0 0 100 [(2, .int (nI i)), (0, rf G 3), (1, rf G 18)] [] 103 I1 R J Q := by
      refine loopd (cM K) (fun I1 hC1 hS1 hD1 hF1 => ?_) (fun i hi ih I1 hC1 hS1 hD1 hF1 => ?_)
      · refine V_iload_n 101 0 rfl rfl dX7_passHour_100 rfl ?_
        refine V_aload_n 102 1 rfl _ rfl rfl dX7_passHour_101 rfl ?_
        refine V_getR 105 3 7 0 4 hR3c flX7_12 rfl rfl rfl (by decide) dX7_passHour_102 rfl ?_
        refine V_getI 108 4 2 8 (nI (cM K)) hC1.2.2.1 flX7_83 rfl rfl rfl (by decide) dX7_passHour_105 rfl ?_
        refine V_icmp_ge 128 111 rfl dX7_passHour_108 rfl (fun c108 => ?_) (fun c108 => absurd (Int32.le_refl _) c108)
        refine V_aload_n 129 2 rfl _ rfl rfl dX7_passHour_128 rfl ?_
        refine V_dup 130 rfl dX7_passHour_129 rfl ?_
        refine V_getI 133 18 3 7 (tk3 (seaD K f D) (hs2 K (seaD K f D) D (cM K)) (cM K) 50) hD1.2.2.2.2.2.2.2.1 flX7_79 rfl rfl rfl (by decide) dX7_passHour_130 rfl ?_
        refine V_iconst 134 (1) rfl dX7_passHour_133 rfl ?_
        refine V_iadd 135 dX7_passHour_134 rfl ?_
        refine V_putI 138 18 3 7 flX7_79 rfl rfl rfl (by decide) rfl dX7_passHour_135 rfl ?_
        refine V_ret_v rfl (Nat.le_refl _) (fun h => absurd h (by decide)) (Nat.le_refl _) (hq _ (DayC_hr hD1) (hF1.tr (FrP.ofC (FrC.rf.up (by decide) (by decide))))) dX7_passHour_138
      · refine V_iload_n 101 0 rfl rfl dX7_passHour_100 rfl ?_
        refine V_aload_n 102 1 rfl _ rfl rfl dX7_passHour_101 rfl ?_
        refine V_getR 105 3 7 0 4 hR3c flX7_12 rfl rfl rfl (by decide) dX7_passHour_102 rfl ?_
        refine V_getI 108 4 2 8 (nI (cM K)) hC1.2.2.1 flX7_83 rfl rfl rfl (by decide) dX7_passHour_105 rfl ?_
        refine V_icmp_ge 128 111 rfl dX7_passHour_108 rfl (fun c108 => absurd c108 (nI_ge hi (by omega))) (fun c108 => ?_)
        refine V_aload_n 112 2 rfl _ rfl rfl dX7_passHour_111 rfl ?_
        refine V_iload_n 113 0 rfl rfl dX7_passHour_112 rfl ?_
        refine V_aload_n 114 1 rfl _ rfl rfl dX7_passHour_113 rfl ?_
        refine V_getR 117 3 7 3 17 hR33 flX7_29 rfl rfl rfl (by decide) dX7_passHour_114 rfl ?_
        refine V_iload_n 118 0 rfl rfl dX7_passHour_117 rfl ?_
        refine V_ialdN 119 17 6 i (seaD K f D i) (hS1 i hi) (by omega) (by decide) rfl (by decide) dX7_passHour_118 rfl ?_
        refine V_callV (K' := 0) (S' := 0) 122 18 3 2 [.int (nI i), .int (seaD K f D i)] mkX3_take lkX7_97 (by decide) rfl rfl (by decide) rfl (Nat.le_of_ble_eq_true rfl) (Nat.le_of_ble_eq_true rfl) (Nat.le_of_ble_eq_true rfl) (Nat.le_of_ble_eq_true rfl) rfl rfl dX7_passHour_119 rfl (c_X3_take_18 hRK hD1 (by omega) (((hWD.hs2 hW (cM K) (Nat.le_refl _)).tk3 (S := seaD K f D) hW i (by omega)).at6 hW (by omega)) (fun I2 hD2 hF2 => ?_))
        refine Kq_v (k' := 0) (sl' := 0) rfl rfl ?_
        refine V_iinc 125 0 rfl (nI (i + 1)) [(2, .int (nI (i + 1))), (0, rf G 3), (1, rf G 18)] (nI_1 _) (by decide) rfl dX7_passHour_122 rfl ?_
        refine V_goto 100 rfl dX7_passHour_125 ?_
        exact V_lv [0, 1, 2] rfl (ih I2 (hC1.fr (fun a h1 h2 => hF2 a (by omega))) (fun j hj => by rw [hF2 17 (by decide)]; exact hS1 j hj) hD2 (hF1.tr (FrP.ofC hF2)))
    have L2 : ∀ i, i ≤ cM K → ∀ I1, CoastC I1 4 K → (∀ j, j < cM K → I1 17 j = seaD K f D j) → DayC I1 18 (hs2 K (seaD K f D) D i) → FrP I I1 18 11 → V G mX7_passHour (d + 1 + 1 + 1) 0 0 0 0 33 [(2, .int (nI i)), (0, rf G 3), (1, rf G 18)] [] 103 I1 R J Q := by
      refine loopd (cM K) (fun I1 hC1 hS1 hD1 hF1 => ?_) (fun i hi ih I1 hC1 hS1 hD1 hF1 => ?_)
      · refine V_iload_n 34 0 rfl rfl dX7_passHour_33 rfl ?_
        refine V_aload_n 35 1 rfl _ rfl rfl dX7_passHour_34 rfl ?_
        refine V_getR 38 3 7 0 4 hR3c flX7_12 rfl rfl rfl (by decide) dX7_passHour_35 rfl ?_
        refine V_getI 41 4 2 8 (nI (cM K)) hC1.2.2.1 flX7_83 rfl rfl rfl (by decide) dX7_passHour_38 rfl ?_
        refine V_icmp_ge 98 44 rfl dX7_passHour_41 rfl (fun c41 => ?_) (fun c41 => absurd (Int32.le_refl _) c41)
        refine V_iconst 99 (0) rfl dX7_passHour_98 rfl ?_
        refine V_istore_n 100 [(2, .int 0), (0, rf G 3), (1, rf G 18)] (by decide) rfl rfl dX7_passHour_99 rfl ?_
        exact V_lv [0, 1, 2] rfl (L3 0 (Nat.zero_le _) I1 hC1 hS1 hD1 hF1)
      · have hw1 := hWD.hs2 (S := seaD K f D) hW i (by omega)
        obtain ⟨E, hE⟩ : ∃ E, E = upd (hs2 K (seaD K f D) D i) (18 + i) (hs2 K (seaD K f D) D i (18 + i) + seaD K f D i) := ⟨_, rfl⟩
        have hEd : DayC (up2 I1 19 i (hs2 K (seaD K f D) D i (18 + i) + seaD K f D i)) 18 E := by rw [hE]; exact DayC_u1 hD1 (by omega)
        have hEF : Flg E := by rw [hE]; exact (hw1.u (by omega) (by omega)).1
        have hEC : CoastC (up2 I1 19 i (hs2 K (seaD K f D) D i (18 + i) + seaD K f D i)) 4 K := hC1.fr (fun a h1 h2 => up2_n _ _ _ (by omega))
        have hEP : FrP I (up2 I1 19 i (hs2 K (seaD K f D) D i (18 + i) + seaD K f D i)) 18 11 := hF1.tr (FrP.ofC (FrC.rf.up (by decide) (by decide)))
        have hnx : hs2 K (seaD K f D) D (i + 1) = (if cBt K i < E (18 + i) then (if E (30 + i) = 1 then dDie E i (cHr K i) else E) else E) := by rw [hE]; rfl
        refine V_iload_n 34 0 rfl rfl dX7_passHour_33 rfl ?_
        refine V_aload_n 35 1 rfl _ rfl rfl dX7_passHour_34 rfl ?_
        refine V_getR 38 3 7 0 4 hR3c flX7_12 rfl rfl rfl (by decide) dX7_passHour_35 rfl ?_
        refine V_getI 41 4 2 8 (nI (cM K)) hC1.2.2.1 flX7_83 rfl rfl rfl (by decide) dX7_passHour_38 rfl ?_
        refine V_icmp_ge 98 44 rfl dX7_passHour_41 rfl (fun c41 => absurd c41 (nI_ge hi (by omega))) (fun c41 => ?_)
        refine V_aload_n 45 2 rfl _ rfl rfl dX7_passHour_44 rfl ?_
        refine V_getR 48 18 3 0 19 (hRK 18 0 (by decide) (by decide) (by decide)) flX7_73 rfl rfl rfl (by decide) dX7_passHour_45 rfl ?_
        refine V_iload_n 49 0 rfl rfl dX7_passHour_48 rfl ?_
        refine V_dup2 50 rfl rfl dX7_passHour_49 rfl ?_
        refine V_ialdN 51 19 6 i (hs2 K (seaD K f D) D i (18 + i)) (hD1.1 i (by omega)) (by omega) (by decide) rfl (by decide) dX7_passHour_50 rfl ?_
        refine V_aload_n 52 1 rfl _ rfl rfl dX7_passHour_51 rfl ?_
        refine V_getR 55 3 7 3 17 hR33 flX7_29 rfl rfl rfl (by decide) dX7_passHour_52 rfl ?_
        refine V_iload_n 56 0 rfl rfl dX7_passHour_55 rfl ?_
        refine V_ialdN 57 17 6 i (seaD K f D i) (hS1 i hi) (by omega) (by decide) rfl (by decide) dX7_passHour_56 rfl ?_
        refine V_iadd 58 dX7_passHour_57 rfl ?_
        refine V_iastN 59 19 6 i (by omega) (by decide) rfl (by decide) dX7_passHour_58 rfl ?_
        refine V_aload_n 60 2 rfl _ rfl rfl dX7_passHour_59 rfl ?_
        refine V_getR 63 18 3 0 19 (hRK 18 0 (by decide) (by decide) (by decide)) flX7_73 rfl rfl rfl (by decide) dX7_passHour_60 rfl ?_
        refine V_iload_n 64 0 rfl rfl dX7_passHour_63 rfl ?_
        refine V_ialdN 65 19 6 i (E (18 + i)) (hEd.1 i (by omega)) (by omega) (by decide) rfl (by decide) dX7_passHour_64 rfl ?_
        refine V_aload_n 66 1 rfl _ rfl rfl dX7_passHour_65 rfl ?_
        refine V_getR 69 3 7 0 4 hR3c flX7_12 rfl rfl rfl (by decide) dX7_passHour_66 rfl ?_
        refine V_getR 72 4 2 4 9 (hRK 4 4 (by decide) (by decide) (by decide)) flX7_70 rfl rfl rfl (by decide) dX7_passHour_69 rfl ?_
        refine V_iload_n 73 0 rfl rfl dX7_passHour_72 rfl ?_
        refine V_ialdN 74 9 6 i (cBt K i) (hEC.2.2.2.2.2.2.2.1 i hi) (by omega) (by decide) rfl (by decide) dX7_passHour_73 rfl ?_
        refine V_icmp_le 92 77 rfl dX7_passHour_74 rfl (fun c74 => ?_) (fun c74 => ?_)
        · have hnx := (by first | exact hnx.trans (if_neg (Int32.not_lt.mpr c74)) | exact hnx : hs2 K (seaD K f D) D (i + 1) = E)
          refine V_iinc 95 0 rfl (nI (i + 1)) [(2, .int (nI (i + 1))), (0, rf G 3), (1, rf G 18)] (nI_1 _) (by decide) rfl dX7_passHour_92 rfl ?_
          refine V_goto 33 rfl dX7_passHour_95 ?_
          first | rw [hnx] at ih | skip
          exact V_lv [0, 1, 2] rfl (ih _ hEC (fun j hj => hS1 j hj) hEd hEP)
        · refine V_aload_n 78 2 rfl _ rfl rfl dX7_passHour_77 rfl ?_
          refine V_iload_n 79 0 rfl rfl dX7_passHour_78 rfl ?_
          refine V_aload_n 80 1 rfl _ rfl rfl dX7_passHour_79 rfl ?_
          refine V_getR 83 3 7 0 4 hR3c flX7_12 rfl rfl rfl (by decide) dX7_passHour_80 rfl ?_
          refine V_getR 86 4 2 5 10 (hRK 4 5 (by decide) (by decide) (by decide)) flX7_90 rfl rfl rfl (by decide) dX7_passHour_83 rfl ?_
          refine V_iload_n 87 0 rfl rfl dX7_passHour_86 rfl ?_
          refine V_ialdN 88 10 6 i (oI (cHr K i)) (hEC.2.2.2.2.2.2.2.2 i hi) (by omega) (by decide) rfl (by decide) dX7_passHour_87 rfl ?_
          refine V_callV (K' := 0) (S' := 0) 91 18 3 2 [.int (nI i), .int (oI (cHr K i))] mkX3_die lkX7_93 (by decide) rfl rfl (by decide) rfl (Nat.le_of_ble_eq_true rfl) (Nat.le_of_ble_eq_true rfl) (Nat.le_of_ble_eq_true rfl) (Nat.le_of_ble_eq_true rfl) rfl rfl dX7_passHour_88 rfl (c_X3_die_18 hRK (hkh i) hEd hEF (by omega) (fun e1 => ?_) (fun e1 I2 hD2 hF2 => ?_))
          · refine Kq_i (k' := 0) (sl' := 0) rfl rfl ?_
            have hnx := hnx.trans ((if_pos (Int32.not_le.mp c74)).trans (if_neg (by rw [e1]; decide)))
            refine V_pop 92 rfl dX7_passHour_91 rfl ?_
            have hnx := (by first | exact hnx.trans (if_neg (Int32.not_lt.mpr c74)) | exact hnx : hs2 K (seaD K f D) D (i + 1) = E)
            refine V_iinc 95 0 rfl (nI (i + 1)) [(2, .int (nI (i + 1))), (0, rf G 3), (1, rf G 18)] (nI_1 _) (by decide) rfl dX7_passHour_92 rfl ?_
            refine V_goto 33 rfl dX7_passHour_95 ?_
            first | rw [hnx] at ih | skip
            exact V_lv [0, 1, 2] rfl (ih _ hEC (fun j hj => hS1 j hj) hEd hEP)
          · refine Kq_i (k' := 0) (sl' := 0) rfl rfl ?_
            have hnx := hnx.trans ((if_pos (Int32.not_le.mp c74)).trans (if_pos e1))
            refine V_pop 92 rfl dX7_passHour_91 rfl ?_
            refine V_iinc 95 0 rfl (nI (i + 1)) [(2, .int (nI (i + 1))), (0, rf G 3), (1, rf G 18)] (nI_1 _) (by decide) rfl dX7_passHour_92 rfl ?_
            refine V_goto 33 rfl dX7_passHour_95 ?_
            rw [hnx] at ih
            exact V_lv [0, 1, 2] rfl (ih I2 (hEC.fr (fun a h1 h2 => hF2 a (by omega))) (fun j hj => by rw [hF2 17 (by decide)]; exact hS1 j hj) hD2 (hEP.tr (FrP.ofC hF2)))
    have L1 : ∀ i, i ≤ cM K → ∀ I1, CoastC I1 4 K → LawC I1 11 f → (∀ j, j < i → I1 17 j = seaD K f D j) → DayC I1 18 D → FrP I I1 18 11 → V G mX7_passHour (d + 1 + 1 + 1) 0 0 0 0 2 [(2, .int (nI i)), (0, rf G 3), (1, rf G 18)] [] 103 I1 R J Q := by
      refine loopd (cM K) (fun I1 hC1 hL1 hS1 hD1 hF1 => ?_) (fun i hi ih I1 hC1 hL1 hS1 hD1 hF1 => ?_)
      · refine V_iload_n 3 0 rfl rfl dX7_passHour_2 rfl ?_
        refine V_aload_n 4 1 rfl _ rfl rfl dX7_passHour_3 rfl ?_
        refine V_getR 7 3 7 0 4 hR3c flX7_12 rfl rfl rfl (by decide) dX7_passHour_4 rfl ?_
        refine V_getI 10 4 2 8 (nI (cM K)) hC1.2.2.1 flX7_83 rfl rfl rfl (by decide) dX7_passHour_7 rfl ?_
        refine V_icmp_ge 31 13 rfl dX7_passHour_10 rfl (fun c10 => ?_) (fun c10 => absurd (Int32.le_refl _) c10)
        refine V_iconst 32 (0) rfl dX7_passHour_31 rfl ?_
        refine V_istore_n 33 [(2, .int 0), (0, rf G 3), (1, rf G 18)] (by decide) rfl rfl dX7_passHour_32 rfl ?_
        exact V_lv [0, 1, 2] rfl (L2 0 (Nat.zero_le _) I1 hC1 hS1 hD1 hF1)
      · refine V_iload_n 3 0 rfl rfl dX7_passHour_2 rfl ?_
        refine V_aload_n 4 1 rfl _ rfl rfl dX7_passHour_3 rfl ?_
        refine V_getR 7 3 7 0 4 hR3c flX7_12 rfl rfl rfl (by decide) dX7_passHour_4 rfl ?_
        refine V_getI 10 4 2 8 (nI (cM K)) hC1.2.2.1 flX7_83 rfl rfl rfl (by decide) dX7_passHour_7 rfl ?_
        refine V_icmp_ge 31 13 rfl dX7_passHour_10 rfl (fun c10 => absurd c10 (nI_ge hi (by omega))) (fun c10 => ?_)
        refine V_aload_n 14 1 rfl _ rfl rfl dX7_passHour_13 rfl ?_
        refine V_getR 17 3 7 3 17 hR33 flX7_29 rfl rfl rfl (by decide) dX7_passHour_14 rfl ?_
        refine V_iload_n 18 0 rfl rfl dX7_passHour_17 rfl ?_
        refine V_aload_n 19 1 rfl _ rfl rfl dX7_passHour_18 rfl ?_
        refine V_aload_n 20 2 rfl _ rfl rfl dX7_passHour_19 rfl ?_
        refine V_iload_n 21 0 rfl rfl dX7_passHour_20 rfl ?_
        refine V_callV (K' := 0) (S' := 0) 24 3 7 2 [rf G 18, .int (nI i)] mkX7_seaOf lkX7_86 (by decide) rfl rfl (by decide) rfl (Nat.le_of_ble_eq_true rfl) (Nat.le_of_ble_eq_true rfl) (Nat.le_of_ble_eq_true rfl) (Nat.le_of_ble_eq_true rfl) rfl rfl dX7_passHour_21 rfl (c_X7_seaOf hRK hR3c hR3l hR32 hR33 hc0 ho0 hl0 hC1 hW hD1 hWD hL1 hi (fun I2 hI2 => ?_))
        refine Kq_i (k' := 0) (sl' := 0) rfl rfl ?_
        refine V_iastN 25 17 6 i (by omega) (by decide) rfl (by decide) dX7_passHour_24 rfl ?_
        refine V_iinc 28 0 rfl (nI (i + 1)) [(2, .int (nI (i + 1))), (0, rf G 3), (1, rf G 18)] (nI_1 _) (by decide) rfl dX7_passHour_25 rfl ?_
        refine V_goto 2 rfl dX7_passHour_28 ?_
        refine V_lv [0, 1, 2] rfl (ih (up2 I2 17 i (seaD K f D i)) (hC1.fr (fun a h1 h2 => by rw [up2_n _ _ _ (by omega)]; exact hI2 a (by omega) (by omega))) (hL1.fr (fun a h1 h2 => by rw [up2_n _ _ _ (by omega)]; exact hI2 a (by omega) (by omega))) (fun j hj => ?_) (hD1.fr (fun a h1 h2 => by rw [up2_n _ _ _ (by omega)]; exact hI2 a (by omega) (by omega))) (hF1.tr (fun a h1 h2 h3 h4 => by rw [up2_n _ _ _ h2]; exact hI2 a h1 h3)))
        rw [up2_s]; by_cases e : j = i
        · subst e; exact upd_s
        · rw [upd_n e, hI2 17 (by decide) (by decide)]; exact hS1 j (by omega)
    show V _ _ _ _ _ _ _ _ [(0, rf G 3), (1, rf G 18)] [] _ _ _ _ _
    refine V_iconst 1 (0) rfl dX7_passHour_0 rfl ?_
    refine V_istore_n 2 [(2, .int 0), (0, rf G 3), (1, rf G 18)] (by decide) rfl rfl dX7_passHour_1 rfl ?_
    exact V_lv [0, 1, 2] rfl (L1 0 (Nat.zero_le _) I hC hL (fun j hj => absurd hj (Nat.not_lt_zero j)) hD FrP.rf)
  · have L3 : ∀ i, i ≤ cM K → ∀ I1, CoastC I1 4 K → (∀ j, j < cM K → I1 17 j = seaD K f D j) → DayC I1 18 (tk3 (seaD K f D) (hs2 K (seaD K f D) D (cM K)) i) → FrP I I1 18 58 → V G mX7_passHour (d + 1 + 1 + 1) 0 0 0 0 100 [(2, .int (nI i)), (0, rf G 3), (1, rf G 18)] [] 103 I1 R J Q := by
      refine loopd (cM K) (fun I1 hC1 hS1 hD1 hF1 => ?_) (fun i hi ih I1 hC1 hS1 hD1 hF1 => ?_)
      · refine V_iload_n 101 0 rfl rfl dX7_passHour_100 rfl ?_
        refine V_aload_n 102 1 rfl _ rfl rfl dX7_passHour_101 rfl ?_
        refine V_getR 105 3 7 0 4 hR3c flX7_12 rfl rfl rfl (by decide) dX7_passHour_102 rfl ?_
        refine V_getI 108 4 2 8 (nI (cM K)) hC1.2.2.1 flX7_83 rfl rfl rfl (by decide) dX7_passHour_105 rfl ?_
        refine V_icmp_ge 128 111 rfl dX7_passHour_108 rfl (fun c108 => ?_) (fun c108 => absurd (Int32.le_refl _) c108)
        refine V_aload_n 129 2 rfl _ rfl rfl dX7_passHour_128 rfl ?_
        refine V_dup 130 rfl dX7_passHour_129 rfl ?_
        refine V_getI 133 18 3 7 (tk3 (seaD K f D) (hs2 K (seaD K f D) D (cM K)) (cM K) 50) hD1.2.2.2.2.2.2.2.1 flX7_79 rfl rfl rfl (by decide) dX7_passHour_130 rfl ?_
        refine V_iconst 134 (1) rfl dX7_passHour_133 rfl ?_
        refine V_iadd 135 dX7_passHour_134 rfl ?_
        refine V_putI 138 18 3 7 flX7_79 rfl rfl rfl (by decide) rfl dX7_passHour_135 rfl ?_
        refine V_ret_v rfl (Nat.le_refl _) (fun h => absurd h (by decide)) (Nat.le_refl _) (hq _ (DayC_hr hD1) (hF1.tr (FrP.ofC (FrC.rf.up (by decide) (by decide))))) dX7_passHour_138
      · refine V_iload_n 101 0 rfl rfl dX7_passHour_100 rfl ?_
        refine V_aload_n 102 1 rfl _ rfl rfl dX7_passHour_101 rfl ?_
        refine V_getR 105 3 7 0 4 hR3c flX7_12 rfl rfl rfl (by decide) dX7_passHour_102 rfl ?_
        refine V_getI 108 4 2 8 (nI (cM K)) hC1.2.2.1 flX7_83 rfl rfl rfl (by decide) dX7_passHour_105 rfl ?_
        refine V_icmp_ge 128 111 rfl dX7_passHour_108 rfl (fun c108 => absurd c108 (nI_ge hi (by omega))) (fun c108 => ?_)
        refine V_aload_n 112 2 rfl _ rfl rfl dX7_passHour_111 rfl ?_
        refine V_iload_n 113 0 rfl rfl dX7_passHour_112 rfl ?_
        refine V_aload_n 114 1 rfl _ rfl rfl dX7_passHour_113 rfl ?_
        refine V_getR 117 3 7 3 17 hR33 flX7_29 rfl rfl rfl (by decide) dX7_passHour_114 rfl ?_
        refine V_iload_n 118 0 rfl rfl dX7_passHour_117 rfl ?_
        refine V_ialdN 119 17 6 i (seaD K f D i) (hS1 i hi) (by omega) (by decide) rfl (by decide) dX7_passHour_118 rfl ?_
        refine V_callV (K' := 0) (S' := 0) 122 18 3 2 [.int (nI i), .int (seaD K f D i)] mkX3_take lkX7_97 (by decide) rfl rfl (by decide) rfl (Nat.le_of_ble_eq_true rfl) (Nat.le_of_ble_eq_true rfl) (Nat.le_of_ble_eq_true rfl) (Nat.le_of_ble_eq_true rfl) rfl rfl dX7_passHour_119 rfl (c_X3_take_18 hRK hD1 (by omega) (((hWD.hs2 hW (cM K) (Nat.le_refl _)).tk3 (S := seaD K f D) hW i (by omega)).at6 hW (by omega)) (fun I2 hD2 hF2 => ?_))
        refine Kq_v (k' := 0) (sl' := 0) rfl rfl ?_
        refine V_iinc 125 0 rfl (nI (i + 1)) [(2, .int (nI (i + 1))), (0, rf G 3), (1, rf G 18)] (nI_1 _) (by decide) rfl dX7_passHour_122 rfl ?_
        refine V_goto 100 rfl dX7_passHour_125 ?_
        exact V_lv [0, 1, 2] rfl (ih I2 (hC1.fr (fun a h1 h2 => hF2 a (by omega))) (fun j hj => by rw [hF2 17 (by decide)]; exact hS1 j hj) hD2 (hF1.tr (FrP.ofC hF2)))
    have L2 : ∀ i, i ≤ cM K → ∀ I1, CoastC I1 4 K → (∀ j, j < cM K → I1 17 j = seaD K f D j) → DayC I1 18 (hs2 K (seaD K f D) D i) → FrP I I1 18 58 → V G mX7_passHour (d + 1 + 1 + 1) 0 0 0 0 33 [(2, .int (nI i)), (0, rf G 3), (1, rf G 18)] [] 103 I1 R J Q := by
      refine loopd (cM K) (fun I1 hC1 hS1 hD1 hF1 => ?_) (fun i hi ih I1 hC1 hS1 hD1 hF1 => ?_)
      · refine V_iload_n 34 0 rfl rfl dX7_passHour_33 rfl ?_
        refine V_aload_n 35 1 rfl _ rfl rfl dX7_passHour_34 rfl ?_
        refine V_getR 38 3 7 0 4 hR3c flX7_12 rfl rfl rfl (by decide) dX7_passHour_35 rfl ?_
        refine V_getI 41 4 2 8 (nI (cM K)) hC1.2.2.1 flX7_83 rfl rfl rfl (by decide) dX7_passHour_38 rfl ?_
        refine V_icmp_ge 98 44 rfl dX7_passHour_41 rfl (fun c41 => ?_) (fun c41 => absurd (Int32.le_refl _) c41)
        refine V_iconst 99 (0) rfl dX7_passHour_98 rfl ?_
        refine V_istore_n 100 [(2, .int 0), (0, rf G 3), (1, rf G 18)] (by decide) rfl rfl dX7_passHour_99 rfl ?_
        exact V_lv [0, 1, 2] rfl (L3 0 (Nat.zero_le _) I1 hC1 hS1 hD1 hF1)
      · have hw1 := hWD.hs2 (S := seaD K f D) hW i (by omega)
        obtain ⟨E, hE⟩ : ∃ E, E = upd (hs2 K (seaD K f D) D i) (18 + i) (hs2 K (seaD K f D) D i (18 + i) + seaD K f D i) := ⟨_, rfl⟩
        have hEd : DayC (up2 I1 19 i (hs2 K (seaD K f D) D i (18 + i) + seaD K f D i)) 18 E := by rw [hE]; exact DayC_u1 hD1 (by omega)
        have hEF : Flg E := by rw [hE]; exact (hw1.u (by omega) (by omega)).1
        have hEC : CoastC (up2 I1 19 i (hs2 K (seaD K f D) D i (18 + i) + seaD K f D i)) 4 K := hC1.fr (fun a h1 h2 => up2_n _ _ _ (by omega))
        have hEP : FrP I (up2 I1 19 i (hs2 K (seaD K f D) D i (18 + i) + seaD K f D i)) 18 58 := hF1.tr (FrP.ofC (FrC.rf.up (by decide) (by decide)))
        have hnx : hs2 K (seaD K f D) D (i + 1) = (if cBt K i < E (18 + i) then (if E (30 + i) = 1 then dDie E i (cHr K i) else E) else E) := by rw [hE]; rfl
        refine V_iload_n 34 0 rfl rfl dX7_passHour_33 rfl ?_
        refine V_aload_n 35 1 rfl _ rfl rfl dX7_passHour_34 rfl ?_
        refine V_getR 38 3 7 0 4 hR3c flX7_12 rfl rfl rfl (by decide) dX7_passHour_35 rfl ?_
        refine V_getI 41 4 2 8 (nI (cM K)) hC1.2.2.1 flX7_83 rfl rfl rfl (by decide) dX7_passHour_38 rfl ?_
        refine V_icmp_ge 98 44 rfl dX7_passHour_41 rfl (fun c41 => absurd c41 (nI_ge hi (by omega))) (fun c41 => ?_)
        refine V_aload_n 45 2 rfl _ rfl rfl dX7_passHour_44 rfl ?_
        refine V_getR 48 18 3 0 19 (hRK 18 0 (by decide) (by decide) (by decide)) flX7_73 rfl rfl rfl (by decide) dX7_passHour_45 rfl ?_
        refine V_iload_n 49 0 rfl rfl dX7_passHour_48 rfl ?_
        refine V_dup2 50 rfl rfl dX7_passHour_49 rfl ?_
        refine V_ialdN 51 19 6 i (hs2 K (seaD K f D) D i (18 + i)) (hD1.1 i (by omega)) (by omega) (by decide) rfl (by decide) dX7_passHour_50 rfl ?_
        refine V_aload_n 52 1 rfl _ rfl rfl dX7_passHour_51 rfl ?_
        refine V_getR 55 3 7 3 17 hR33 flX7_29 rfl rfl rfl (by decide) dX7_passHour_52 rfl ?_
        refine V_iload_n 56 0 rfl rfl dX7_passHour_55 rfl ?_
        refine V_ialdN 57 17 6 i (seaD K f D i) (hS1 i hi) (by omega) (by decide) rfl (by decide) dX7_passHour_56 rfl ?_
        refine V_iadd 58 dX7_passHour_57 rfl ?_
        refine V_iastN 59 19 6 i (by omega) (by decide) rfl (by decide) dX7_passHour_58 rfl ?_
        refine V_aload_n 60 2 rfl _ rfl rfl dX7_passHour_59 rfl ?_
        refine V_getR 63 18 3 0 19 (hRK 18 0 (by decide) (by decide) (by decide)) flX7_73 rfl rfl rfl (by decide) dX7_passHour_60 rfl ?_
        refine V_iload_n 64 0 rfl rfl dX7_passHour_63 rfl ?_
        refine V_ialdN 65 19 6 i (E (18 + i)) (hEd.1 i (by omega)) (by omega) (by decide) rfl (by decide) dX7_passHour_64 rfl ?_
        refine V_aload_n 66 1 rfl _ rfl rfl dX7_passHour_65 rfl ?_
        refine V_getR 69 3 7 0 4 hR3c flX7_12 rfl rfl rfl (by decide) dX7_passHour_66 rfl ?_
        refine V_getR 72 4 2 4 9 (hRK 4 4 (by decide) (by decide) (by decide)) flX7_70 rfl rfl rfl (by decide) dX7_passHour_69 rfl ?_
        refine V_iload_n 73 0 rfl rfl dX7_passHour_72 rfl ?_
        refine V_ialdN 74 9 6 i (cBt K i) (hEC.2.2.2.2.2.2.2.1 i hi) (by omega) (by decide) rfl (by decide) dX7_passHour_73 rfl ?_
        refine V_icmp_le 92 77 rfl dX7_passHour_74 rfl (fun c74 => ?_) (fun c74 => ?_)
        · have hnx := (by first | exact hnx.trans (if_neg (Int32.not_lt.mpr c74)) | exact hnx : hs2 K (seaD K f D) D (i + 1) = E)
          refine V_iinc 95 0 rfl (nI (i + 1)) [(2, .int (nI (i + 1))), (0, rf G 3), (1, rf G 18)] (nI_1 _) (by decide) rfl dX7_passHour_92 rfl ?_
          refine V_goto 33 rfl dX7_passHour_95 ?_
          first | rw [hnx] at ih | skip
          exact V_lv [0, 1, 2] rfl (ih _ hEC (fun j hj => hS1 j hj) hEd hEP)
        · refine V_aload_n 78 2 rfl _ rfl rfl dX7_passHour_77 rfl ?_
          refine V_iload_n 79 0 rfl rfl dX7_passHour_78 rfl ?_
          refine V_aload_n 80 1 rfl _ rfl rfl dX7_passHour_79 rfl ?_
          refine V_getR 83 3 7 0 4 hR3c flX7_12 rfl rfl rfl (by decide) dX7_passHour_80 rfl ?_
          refine V_getR 86 4 2 5 10 (hRK 4 5 (by decide) (by decide) (by decide)) flX7_90 rfl rfl rfl (by decide) dX7_passHour_83 rfl ?_
          refine V_iload_n 87 0 rfl rfl dX7_passHour_86 rfl ?_
          refine V_ialdN 88 10 6 i (oI (cHr K i)) (hEC.2.2.2.2.2.2.2.2 i hi) (by omega) (by decide) rfl (by decide) dX7_passHour_87 rfl ?_
          refine V_callV (K' := 0) (S' := 0) 91 18 3 2 [.int (nI i), .int (oI (cHr K i))] mkX3_die lkX7_93 (by decide) rfl rfl (by decide) rfl (Nat.le_of_ble_eq_true rfl) (Nat.le_of_ble_eq_true rfl) (Nat.le_of_ble_eq_true rfl) (Nat.le_of_ble_eq_true rfl) rfl rfl dX7_passHour_88 rfl (c_X3_die_18 hRK (hkh i) hEd hEF (by omega) (fun e1 => ?_) (fun e1 I2 hD2 hF2 => ?_))
          · refine Kq_i (k' := 0) (sl' := 0) rfl rfl ?_
            have hnx := hnx.trans ((if_pos (Int32.not_le.mp c74)).trans (if_neg (by rw [e1]; decide)))
            refine V_pop 92 rfl dX7_passHour_91 rfl ?_
            have hnx := (by first | exact hnx.trans (if_neg (Int32.not_lt.mpr c74)) | exact hnx : hs2 K (seaD K f D) D (i + 1) = E)
            refine V_iinc 95 0 rfl (nI (i + 1)) [(2, .int (nI (i + 1))), (0, rf G 3), (1, rf G 18)] (nI_1 _) (by decide) rfl dX7_passHour_92 rfl ?_
            refine V_goto 33 rfl dX7_passHour_95 ?_
            first | rw [hnx] at ih | skip
            exact V_lv [0, 1, 2] rfl (ih _ hEC (fun j hj => hS1 j hj) hEd hEP)
          · refine Kq_i (k' := 0) (sl' := 0) rfl rfl ?_
            have hnx := hnx.trans ((if_pos (Int32.not_le.mp c74)).trans (if_pos e1))
            refine V_pop 92 rfl dX7_passHour_91 rfl ?_
            refine V_iinc 95 0 rfl (nI (i + 1)) [(2, .int (nI (i + 1))), (0, rf G 3), (1, rf G 18)] (nI_1 _) (by decide) rfl dX7_passHour_92 rfl ?_
            refine V_goto 33 rfl dX7_passHour_95 ?_
            rw [hnx] at ih
            exact V_lv [0, 1, 2] rfl (ih I2 (hEC.fr (fun a h1 h2 => hF2 a (by omega))) (fun j hj => by rw [hF2 17 (by decide)]; exact hS1 j hj) hD2 (hEP.tr (FrP.ofC hF2)))
    have L1 : ∀ i, i ≤ cM K → ∀ I1, CoastC I1 4 K → LawC I1 58 f → (∀ j, j < i → I1 17 j = seaD K f D j) → DayC I1 18 D → FrP I I1 18 58 → V G mX7_passHour (d + 1 + 1 + 1) 0 0 0 0 2 [(2, .int (nI i)), (0, rf G 3), (1, rf G 18)] [] 103 I1 R J Q := by
      refine loopd (cM K) (fun I1 hC1 hL1 hS1 hD1 hF1 => ?_) (fun i hi ih I1 hC1 hL1 hS1 hD1 hF1 => ?_)
      · refine V_iload_n 3 0 rfl rfl dX7_passHour_2 rfl ?_
        refine V_aload_n 4 1 rfl _ rfl rfl dX7_passHour_3 rfl ?_
        refine V_getR 7 3 7 0 4 hR3c flX7_12 rfl rfl rfl (by decide) dX7_passHour_4 rfl ?_
        refine V_getI 10 4 2 8 (nI (cM K)) hC1.2.2.1 flX7_83 rfl rfl rfl (by decide) dX7_passHour_7 rfl ?_
        refine V_icmp_ge 31 13 rfl dX7_passHour_10 rfl (fun c10 => ?_) (fun c10 => absurd (Int32.le_refl _) c10)
        refine V_iconst 32 (0) rfl dX7_passHour_31 rfl ?_
        refine V_istore_n 33 [(2, .int 0), (0, rf G 3), (1, rf G 18)] (by decide) rfl rfl dX7_passHour_32 rfl ?_
        exact V_lv [0, 1, 2] rfl (L2 0 (Nat.zero_le _) I1 hC1 hS1 hD1 hF1)
      · refine V_iload_n 3 0 rfl rfl dX7_passHour_2 rfl ?_
        refine V_aload_n 4 1 rfl _ rfl rfl dX7_passHour_3 rfl ?_
        refine V_getR 7 3 7 0 4 hR3c flX7_12 rfl rfl rfl (by decide) dX7_passHour_4 rfl ?_
        refine V_getI 10 4 2 8 (nI (cM K)) hC1.2.2.1 flX7_83 rfl rfl rfl (by decide) dX7_passHour_7 rfl ?_
        refine V_icmp_ge 31 13 rfl dX7_passHour_10 rfl (fun c10 => absurd c10 (nI_ge hi (by omega))) (fun c10 => ?_)
        refine V_aload_n 14 1 rfl _ rfl rfl dX7_passHour_13 rfl ?_
        refine V_getR 17 3 7 3 17 hR33 flX7_29 rfl rfl rfl (by decide) dX7_passHour_14 rfl ?_
        refine V_iload_n 18 0 rfl rfl dX7_passHour_17 rfl ?_
        refine V_aload_n 19 1 rfl _ rfl rfl dX7_passHour_18 rfl ?_
        refine V_aload_n 20 2 rfl _ rfl rfl dX7_passHour_19 rfl ?_
        refine V_iload_n 21 0 rfl rfl dX7_passHour_20 rfl ?_
        refine V_callV (K' := 0) (S' := 0) 24 3 7 2 [rf G 18, .int (nI i)] mkX7_seaOf lkX7_86 (by decide) rfl rfl (by decide) rfl (Nat.le_of_ble_eq_true rfl) (Nat.le_of_ble_eq_true rfl) (Nat.le_of_ble_eq_true rfl) (Nat.le_of_ble_eq_true rfl) rfl rfl dX7_passHour_21 rfl (c_X7_seaOf hRK hR3c hR3l hR32 hR33 hc0 ho0 hl0 hC1 hW hD1 hWD hL1 hi (fun I2 hI2 => ?_))
        refine Kq_i (k' := 0) (sl' := 0) rfl rfl ?_
        refine V_iastN 25 17 6 i (by omega) (by decide) rfl (by decide) dX7_passHour_24 rfl ?_
        refine V_iinc 28 0 rfl (nI (i + 1)) [(2, .int (nI (i + 1))), (0, rf G 3), (1, rf G 18)] (nI_1 _) (by decide) rfl dX7_passHour_25 rfl ?_
        refine V_goto 2 rfl dX7_passHour_28 ?_
        refine V_lv [0, 1, 2] rfl (ih (up2 I2 17 i (seaD K f D i)) (hC1.fr (fun a h1 h2 => by rw [up2_n _ _ _ (by omega)]; exact hI2 a (by omega) (by omega))) (hL1.fr (fun a h1 h2 => by rw [up2_n _ _ _ (by omega)]; exact hI2 a (by omega) (by omega))) (fun j hj => ?_) (hD1.fr (fun a h1 h2 => by rw [up2_n _ _ _ (by omega)]; exact hI2 a (by omega) (by omega))) (hF1.tr (fun a h1 h2 h3 h4 => by rw [up2_n _ _ _ h2]; exact hI2 a h1 h3)))
        rw [up2_s]; by_cases e : j = i
        · subst e; exact upd_s
        · rw [upd_n e, hI2 17 (by decide) (by decide)]; exact hS1 j (by omega)
    show V _ _ _ _ _ _ _ _ [(0, rf G 3), (1, rf G 18)] [] _ _ _ _ _
    refine V_iconst 1 (0) rfl dX7_passHour_0 rfl ?_
    refine V_istore_n 2 [(2, .int 0), (0, rf G 3), (1, rf G 18)] (by decide) rfl rfl dX7_passHour_1 rfl ?_
    exact V_lv [0, 1, 2] rfl (L1 0 (Nat.zero_le _) I hC hL (fun j hj => absurd hj (Nat.not_lt_zero j)) hD FrP.rf)
  · have L3 : ∀ i, i ≤ cM K → ∀ I1, CoastC I1 4 K → (∀ j, j < cM K → I1 17 j = seaD K f D j) → DayC I1 26 (tk3 (seaD K f D) (hs2 K (seaD K f D) D (cM K)) i) → FrP I I1 26 11 → V G mX7_passHour (d + 1 + 1 + 1) 0 0 0 0 100 [(2, .int (nI i)), (0, rf G 3), (1, rf G 26)] [] 103 I1 R J Q := by
      refine loopd (cM K) (fun I1 hC1 hS1 hD1 hF1 => ?_) (fun i hi ih I1 hC1 hS1 hD1 hF1 => ?_)
      · refine V_iload_n 101 0 rfl rfl dX7_passHour_100 rfl ?_
        refine V_aload_n 102 1 rfl _ rfl rfl dX7_passHour_101 rfl ?_
        refine V_getR 105 3 7 0 4 hR3c flX7_12 rfl rfl rfl (by decide) dX7_passHour_102 rfl ?_
        refine V_getI 108 4 2 8 (nI (cM K)) hC1.2.2.1 flX7_83 rfl rfl rfl (by decide) dX7_passHour_105 rfl ?_
        refine V_icmp_ge 128 111 rfl dX7_passHour_108 rfl (fun c108 => ?_) (fun c108 => absurd (Int32.le_refl _) c108)
        refine V_aload_n 129 2 rfl _ rfl rfl dX7_passHour_128 rfl ?_
        refine V_dup 130 rfl dX7_passHour_129 rfl ?_
        refine V_getI 133 26 3 7 (tk3 (seaD K f D) (hs2 K (seaD K f D) D (cM K)) (cM K) 50) hD1.2.2.2.2.2.2.2.1 flX7_79 rfl rfl rfl (by decide) dX7_passHour_130 rfl ?_
        refine V_iconst 134 (1) rfl dX7_passHour_133 rfl ?_
        refine V_iadd 135 dX7_passHour_134 rfl ?_
        refine V_putI 138 26 3 7 flX7_79 rfl rfl rfl (by decide) rfl dX7_passHour_135 rfl ?_
        refine V_ret_v rfl (Nat.le_refl _) (fun h => absurd h (by decide)) (Nat.le_refl _) (hq _ (DayC_hr hD1) (hF1.tr (FrP.ofC (FrC.rf.up (by decide) (by decide))))) dX7_passHour_138
      · refine V_iload_n 101 0 rfl rfl dX7_passHour_100 rfl ?_
        refine V_aload_n 102 1 rfl _ rfl rfl dX7_passHour_101 rfl ?_
        refine V_getR 105 3 7 0 4 hR3c flX7_12 rfl rfl rfl (by decide) dX7_passHour_102 rfl ?_
        refine V_getI 108 4 2 8 (nI (cM K)) hC1.2.2.1 flX7_83 rfl rfl rfl (by decide) dX7_passHour_105 rfl ?_
        refine V_icmp_ge 128 111 rfl dX7_passHour_108 rfl (fun c108 => absurd c108 (nI_ge hi (by omega))) (fun c108 => ?_)
        refine V_aload_n 112 2 rfl _ rfl rfl dX7_passHour_111 rfl ?_
        refine V_iload_n 113 0 rfl rfl dX7_passHour_112 rfl ?_
        refine V_aload_n 114 1 rfl _ rfl rfl dX7_passHour_113 rfl ?_
        refine V_getR 117 3 7 3 17 hR33 flX7_29 rfl rfl rfl (by decide) dX7_passHour_114 rfl ?_
        refine V_iload_n 118 0 rfl rfl dX7_passHour_117 rfl ?_
        refine V_ialdN 119 17 6 i (seaD K f D i) (hS1 i hi) (by omega) (by decide) rfl (by decide) dX7_passHour_118 rfl ?_
        refine V_callV (K' := 0) (S' := 0) 122 26 3 2 [.int (nI i), .int (seaD K f D i)] mkX3_take lkX7_97 (by decide) rfl rfl (by decide) rfl (Nat.le_of_ble_eq_true rfl) (Nat.le_of_ble_eq_true rfl) (Nat.le_of_ble_eq_true rfl) (Nat.le_of_ble_eq_true rfl) rfl rfl dX7_passHour_119 rfl (c_X3_take_26 hRK hD1 (by omega) (((hWD.hs2 hW (cM K) (Nat.le_refl _)).tk3 (S := seaD K f D) hW i (by omega)).at6 hW (by omega)) (fun I2 hD2 hF2 => ?_))
        refine Kq_v (k' := 0) (sl' := 0) rfl rfl ?_
        refine V_iinc 125 0 rfl (nI (i + 1)) [(2, .int (nI (i + 1))), (0, rf G 3), (1, rf G 26)] (nI_1 _) (by decide) rfl dX7_passHour_122 rfl ?_
        refine V_goto 100 rfl dX7_passHour_125 ?_
        exact V_lv [0, 1, 2] rfl (ih I2 (hC1.fr (fun a h1 h2 => hF2 a (by omega))) (fun j hj => by rw [hF2 17 (by decide)]; exact hS1 j hj) hD2 (hF1.tr (FrP.ofC hF2)))
    have L2 : ∀ i, i ≤ cM K → ∀ I1, CoastC I1 4 K → (∀ j, j < cM K → I1 17 j = seaD K f D j) → DayC I1 26 (hs2 K (seaD K f D) D i) → FrP I I1 26 11 → V G mX7_passHour (d + 1 + 1 + 1) 0 0 0 0 33 [(2, .int (nI i)), (0, rf G 3), (1, rf G 26)] [] 103 I1 R J Q := by
      refine loopd (cM K) (fun I1 hC1 hS1 hD1 hF1 => ?_) (fun i hi ih I1 hC1 hS1 hD1 hF1 => ?_)
      · refine V_iload_n 34 0 rfl rfl dX7_passHour_33 rfl ?_
        refine V_aload_n 35 1 rfl _ rfl rfl dX7_passHour_34 rfl ?_
        refine V_getR 38 3 7 0 4 hR3c flX7_12 rfl rfl rfl (by decide) dX7_passHour_35 rfl ?_
        refine V_getI 41 4 2 8 (nI (cM K)) hC1.2.2.1 flX7_83 rfl rfl rfl (by decide) dX7_passHour_38 rfl ?_
        refine V_icmp_ge 98 44 rfl dX7_passHour_41 rfl (fun c41 => ?_) (fun c41 => absurd (Int32.le_refl _) c41)
        refine V_iconst 99 (0) rfl dX7_passHour_98 rfl ?_
        refine V_istore_n 100 [(2, .int 0), (0, rf G 3), (1, rf G 26)] (by decide) rfl rfl dX7_passHour_99 rfl ?_
        exact V_lv [0, 1, 2] rfl (L3 0 (Nat.zero_le _) I1 hC1 hS1 hD1 hF1)
      · have hw1 := hWD.hs2 (S := seaD K f D) hW i (by omega)
        obtain ⟨E, hE⟩ : ∃ E, E = upd (hs2 K (seaD K f D) D i) (18 + i) (hs2 K (seaD K f D) D i (18 + i) + seaD K f D i) := ⟨_, rfl⟩
        have hEd : DayC (up2 I1 27 i (hs2 K (seaD K f D) D i (18 + i) + seaD K f D i)) 26 E := by rw [hE]; exact DayC_u1 hD1 (by omega)
        have hEF : Flg E := by rw [hE]; exact (hw1.u (by omega) (by omega)).1
        have hEC : CoastC (up2 I1 27 i (hs2 K (seaD K f D) D i (18 + i) + seaD K f D i)) 4 K := hC1.fr (fun a h1 h2 => up2_n _ _ _ (by omega))
        have hEP : FrP I (up2 I1 27 i (hs2 K (seaD K f D) D i (18 + i) + seaD K f D i)) 26 11 := hF1.tr (FrP.ofC (FrC.rf.up (by decide) (by decide)))
        have hnx : hs2 K (seaD K f D) D (i + 1) = (if cBt K i < E (18 + i) then (if E (30 + i) = 1 then dDie E i (cHr K i) else E) else E) := by rw [hE]; rfl
        refine V_iload_n 34 0 rfl rfl dX7_passHour_33 rfl ?_
        refine V_aload_n 35 1 rfl _ rfl rfl dX7_passHour_34 rfl ?_
        refine V_getR 38 3 7 0 4 hR3c flX7_12 rfl rfl rfl (by decide) dX7_passHour_35 rfl ?_
        refine V_getI 41 4 2 8 (nI (cM K)) hC1.2.2.1 flX7_83 rfl rfl rfl (by decide) dX7_passHour_38 rfl ?_
        refine V_icmp_ge 98 44 rfl dX7_passHour_41 rfl (fun c41 => absurd c41 (nI_ge hi (by omega))) (fun c41 => ?_)
        refine V_aload_n 45 2 rfl _ rfl rfl dX7_passHour_44 rfl ?_
        refine V_getR 48 26 3 0 27 (hRK 26 0 (by decide) (by decide) (by decide)) flX7_73 rfl rfl rfl (by decide) dX7_passHour_45 rfl ?_
        refine V_iload_n 49 0 rfl rfl dX7_passHour_48 rfl ?_
        refine V_dup2 50 rfl rfl dX7_passHour_49 rfl ?_
        refine V_ialdN 51 27 6 i (hs2 K (seaD K f D) D i (18 + i)) (hD1.1 i (by omega)) (by omega) (by decide) rfl (by decide) dX7_passHour_50 rfl ?_
        refine V_aload_n 52 1 rfl _ rfl rfl dX7_passHour_51 rfl ?_
        refine V_getR 55 3 7 3 17 hR33 flX7_29 rfl rfl rfl (by decide) dX7_passHour_52 rfl ?_
        refine V_iload_n 56 0 rfl rfl dX7_passHour_55 rfl ?_
        refine V_ialdN 57 17 6 i (seaD K f D i) (hS1 i hi) (by omega) (by decide) rfl (by decide) dX7_passHour_56 rfl ?_
        refine V_iadd 58 dX7_passHour_57 rfl ?_
        refine V_iastN 59 27 6 i (by omega) (by decide) rfl (by decide) dX7_passHour_58 rfl ?_
        refine V_aload_n 60 2 rfl _ rfl rfl dX7_passHour_59 rfl ?_
        refine V_getR 63 26 3 0 27 (hRK 26 0 (by decide) (by decide) (by decide)) flX7_73 rfl rfl rfl (by decide) dX7_passHour_60 rfl ?_
        refine V_iload_n 64 0 rfl rfl dX7_passHour_63 rfl ?_
        refine V_ialdN 65 27 6 i (E (18 + i)) (hEd.1 i (by omega)) (by omega) (by decide) rfl (by decide) dX7_passHour_64 rfl ?_
        refine V_aload_n 66 1 rfl _ rfl rfl dX7_passHour_65 rfl ?_
        refine V_getR 69 3 7 0 4 hR3c flX7_12 rfl rfl rfl (by decide) dX7_passHour_66 rfl ?_
        refine V_getR 72 4 2 4 9 (hRK 4 4 (by decide) (by decide) (by decide)) flX7_70 rfl rfl rfl (by decide) dX7_passHour_69 rfl ?_
        refine V_iload_n 73 0 rfl rfl dX7_passHour_72 rfl ?_
        refine V_ialdN 74 9 6 i (cBt K i) (hEC.2.2.2.2.2.2.2.1 i hi) (by omega) (by decide) rfl (by decide) dX7_passHour_73 rfl ?_
        refine V_icmp_le 92 77 rfl dX7_passHour_74 rfl (fun c74 => ?_) (fun c74 => ?_)
        · have hnx := (by first | exact hnx.trans (if_neg (Int32.not_lt.mpr c74)) | exact hnx : hs2 K (seaD K f D) D (i + 1) = E)
          refine V_iinc 95 0 rfl (nI (i + 1)) [(2, .int (nI (i + 1))), (0, rf G 3), (1, rf G 26)] (nI_1 _) (by decide) rfl dX7_passHour_92 rfl ?_
          refine V_goto 33 rfl dX7_passHour_95 ?_
          first | rw [hnx] at ih | skip
          exact V_lv [0, 1, 2] rfl (ih _ hEC (fun j hj => hS1 j hj) hEd hEP)
        · refine V_aload_n 78 2 rfl _ rfl rfl dX7_passHour_77 rfl ?_
          refine V_iload_n 79 0 rfl rfl dX7_passHour_78 rfl ?_
          refine V_aload_n 80 1 rfl _ rfl rfl dX7_passHour_79 rfl ?_
          refine V_getR 83 3 7 0 4 hR3c flX7_12 rfl rfl rfl (by decide) dX7_passHour_80 rfl ?_
          refine V_getR 86 4 2 5 10 (hRK 4 5 (by decide) (by decide) (by decide)) flX7_90 rfl rfl rfl (by decide) dX7_passHour_83 rfl ?_
          refine V_iload_n 87 0 rfl rfl dX7_passHour_86 rfl ?_
          refine V_ialdN 88 10 6 i (oI (cHr K i)) (hEC.2.2.2.2.2.2.2.2 i hi) (by omega) (by decide) rfl (by decide) dX7_passHour_87 rfl ?_
          refine V_callV (K' := 0) (S' := 0) 91 26 3 2 [.int (nI i), .int (oI (cHr K i))] mkX3_die lkX7_93 (by decide) rfl rfl (by decide) rfl (Nat.le_of_ble_eq_true rfl) (Nat.le_of_ble_eq_true rfl) (Nat.le_of_ble_eq_true rfl) (Nat.le_of_ble_eq_true rfl) rfl rfl dX7_passHour_88 rfl (c_X3_die_26 hRK (hkh i) hEd hEF (by omega) (fun e1 => ?_) (fun e1 I2 hD2 hF2 => ?_))
          · refine Kq_i (k' := 0) (sl' := 0) rfl rfl ?_
            have hnx := hnx.trans ((if_pos (Int32.not_le.mp c74)).trans (if_neg (by rw [e1]; decide)))
            refine V_pop 92 rfl dX7_passHour_91 rfl ?_
            have hnx := (by first | exact hnx.trans (if_neg (Int32.not_lt.mpr c74)) | exact hnx : hs2 K (seaD K f D) D (i + 1) = E)
            refine V_iinc 95 0 rfl (nI (i + 1)) [(2, .int (nI (i + 1))), (0, rf G 3), (1, rf G 26)] (nI_1 _) (by decide) rfl dX7_passHour_92 rfl ?_
            refine V_goto 33 rfl dX7_passHour_95 ?_
            first | rw [hnx] at ih | skip
            exact V_lv [0, 1, 2] rfl (ih _ hEC (fun j hj => hS1 j hj) hEd hEP)
          · refine Kq_i (k' := 0) (sl' := 0) rfl rfl ?_
            have hnx := hnx.trans ((if_pos (Int32.not_le.mp c74)).trans (if_pos e1))
            refine V_pop 92 rfl dX7_passHour_91 rfl ?_
            refine V_iinc 95 0 rfl (nI (i + 1)) [(2, .int (nI (i + 1))), (0, rf G 3), (1, rf G 26)] (nI_1 _) (by decide) rfl dX7_passHour_92 rfl ?_
            refine V_goto 33 rfl dX7_passHour_95 ?_
            rw [hnx] at ih
            exact V_lv [0, 1, 2] rfl (ih I2 (hEC.fr (fun a h1 h2 => hF2 a (by omega))) (fun j hj => by rw [hF2 17 (by decide)]; exact hS1 j hj) hD2 (hEP.tr (FrP.ofC hF2)))
    have L1 : ∀ i, i ≤ cM K → ∀ I1, CoastC I1 4 K → LawC I1 11 f → (∀ j, j < i → I1 17 j = seaD K f D j) → DayC I1 26 D → FrP I I1 26 11 → V G mX7_passHour (d + 1 + 1 + 1) 0 0 0 0 2 [(2, .int (nI i)), (0, rf G 3), (1, rf G 26)] [] 103 I1 R J Q := by
      refine loopd (cM K) (fun I1 hC1 hL1 hS1 hD1 hF1 => ?_) (fun i hi ih I1 hC1 hL1 hS1 hD1 hF1 => ?_)
      · refine V_iload_n 3 0 rfl rfl dX7_passHour_2 rfl ?_
        refine V_aload_n 4 1 rfl _ rfl rfl dX7_passHour_3 rfl ?_
        refine V_getR 7 3 7 0 4 hR3c flX7_12 rfl rfl rfl (by decide) dX7_passHour_4 rfl ?_
        refine V_getI 10 4 2 8 (nI (cM K)) hC1.2.2.1 flX7_83 rfl rfl rfl (by decide) dX7_passHour_7 rfl ?_
        refine V_icmp_ge 31 13 rfl dX7_passHour_10 rfl (fun c10 => ?_) (fun c10 => absurd (Int32.le_refl _) c10)
        refine V_iconst 32 (0) rfl dX7_passHour_31 rfl ?_
        refine V_istore_n 33 [(2, .int 0), (0, rf G 3), (1, rf G 26)] (by decide) rfl rfl dX7_passHour_32 rfl ?_
        exact V_lv [0, 1, 2] rfl (L2 0 (Nat.zero_le _) I1 hC1 hS1 hD1 hF1)
      · refine V_iload_n 3 0 rfl rfl dX7_passHour_2 rfl ?_
        refine V_aload_n 4 1 rfl _ rfl rfl dX7_passHour_3 rfl ?_
        refine V_getR 7 3 7 0 4 hR3c flX7_12 rfl rfl rfl (by decide) dX7_passHour_4 rfl ?_
        refine V_getI 10 4 2 8 (nI (cM K)) hC1.2.2.1 flX7_83 rfl rfl rfl (by decide) dX7_passHour_7 rfl ?_
        refine V_icmp_ge 31 13 rfl dX7_passHour_10 rfl (fun c10 => absurd c10 (nI_ge hi (by omega))) (fun c10 => ?_)
        refine V_aload_n 14 1 rfl _ rfl rfl dX7_passHour_13 rfl ?_
        refine V_getR 17 3 7 3 17 hR33 flX7_29 rfl rfl rfl (by decide) dX7_passHour_14 rfl ?_
        refine V_iload_n 18 0 rfl rfl dX7_passHour_17 rfl ?_
        refine V_aload_n 19 1 rfl _ rfl rfl dX7_passHour_18 rfl ?_
        refine V_aload_n 20 2 rfl _ rfl rfl dX7_passHour_19 rfl ?_
        refine V_iload_n 21 0 rfl rfl dX7_passHour_20 rfl ?_
        refine V_callV (K' := 0) (S' := 0) 24 3 7 2 [rf G 26, .int (nI i)] mkX7_seaOf lkX7_86 (by decide) rfl rfl (by decide) rfl (Nat.le_of_ble_eq_true rfl) (Nat.le_of_ble_eq_true rfl) (Nat.le_of_ble_eq_true rfl) (Nat.le_of_ble_eq_true rfl) rfl rfl dX7_passHour_21 rfl (c_X7_seaOf hRK hR3c hR3l hR32 hR33 hc0 ho0 hl0 hC1 hW hD1 hWD hL1 hi (fun I2 hI2 => ?_))
        refine Kq_i (k' := 0) (sl' := 0) rfl rfl ?_
        refine V_iastN 25 17 6 i (by omega) (by decide) rfl (by decide) dX7_passHour_24 rfl ?_
        refine V_iinc 28 0 rfl (nI (i + 1)) [(2, .int (nI (i + 1))), (0, rf G 3), (1, rf G 26)] (nI_1 _) (by decide) rfl dX7_passHour_25 rfl ?_
        refine V_goto 2 rfl dX7_passHour_28 ?_
        refine V_lv [0, 1, 2] rfl (ih (up2 I2 17 i (seaD K f D i)) (hC1.fr (fun a h1 h2 => by rw [up2_n _ _ _ (by omega)]; exact hI2 a (by omega) (by omega))) (hL1.fr (fun a h1 h2 => by rw [up2_n _ _ _ (by omega)]; exact hI2 a (by omega) (by omega))) (fun j hj => ?_) (hD1.fr (fun a h1 h2 => by rw [up2_n _ _ _ (by omega)]; exact hI2 a (by omega) (by omega))) (hF1.tr (fun a h1 h2 h3 h4 => by rw [up2_n _ _ _ h2]; exact hI2 a h1 h3)))
        rw [up2_s]; by_cases e : j = i
        · subst e; exact upd_s
        · rw [upd_n e, hI2 17 (by decide) (by decide)]; exact hS1 j (by omega)
    show V _ _ _ _ _ _ _ _ [(0, rf G 3), (1, rf G 26)] [] _ _ _ _ _
    refine V_iconst 1 (0) rfl dX7_passHour_0 rfl ?_
    refine V_istore_n 2 [(2, .int 0), (0, rf G 3), (1, rf G 26)] (by decide) rfl rfl dX7_passHour_1 rfl ?_
    exact V_lv [0, 1, 2] rfl (L1 0 (Nat.zero_le _) I hC hL (fun j hj => absurd hj (Nat.not_lt_zero j)) hD FrP.rf)
  · have L3 : ∀ i, i ≤ cM K → ∀ I1, CoastC I1 4 K → (∀ j, j < cM K → I1 17 j = seaD K f D j) → DayC I1 26 (tk3 (seaD K f D) (hs2 K (seaD K f D) D (cM K)) i) → FrP I I1 26 58 → V G mX7_passHour (d + 1 + 1 + 1) 0 0 0 0 100 [(2, .int (nI i)), (0, rf G 3), (1, rf G 26)] [] 103 I1 R J Q := by
      refine loopd (cM K) (fun I1 hC1 hS1 hD1 hF1 => ?_) (fun i hi ih I1 hC1 hS1 hD1 hF1 => ?_)
      · refine V_iload_n 101 0 rfl rfl dX7_passHour_100 rfl ?_
        refine V_aload_n 102 1 rfl _ rfl rfl dX7_passHour_101 rfl ?_
        refine V_getR 105 3 7 0 4 hR3c flX7_12 rfl rfl rfl (by decide) dX7_passHour_102 rfl ?_
        refine V_getI 108 4 2 8 (nI (cM K)) hC1.2.2.1 flX7_83 rfl rfl rfl (by decide) dX7_passHour_105 rfl ?_
        refine V_icmp_ge 128 111 rfl dX7_passHour_108 rfl (fun c108 => ?_) (fun c108 => absurd (Int32.le_refl _) c108)
        refine V_aload_n 129 2 rfl _ rfl rfl dX7_passHour_128 rfl ?_
        refine V_dup 130 rfl dX7_passHour_129 rfl ?_
        refine V_getI 133 26 3 7 (tk3 (seaD K f D) (hs2 K (seaD K f D) D (cM K)) (cM K) 50) hD1.2.2.2.2.2.2.2.1 flX7_79 rfl rfl rfl (by decide) dX7_passHour_130 rfl ?_
        refine V_iconst 134 (1) rfl dX7_passHour_133 rfl ?_
        refine V_iadd 135 dX7_passHour_134 rfl ?_
        refine V_putI 138 26 3 7 flX7_79 rfl rfl rfl (by decide) rfl dX7_passHour_135 rfl ?_
        refine V_ret_v rfl (Nat.le_refl _) (fun h => absurd h (by decide)) (Nat.le_refl _) (hq _ (DayC_hr hD1) (hF1.tr (FrP.ofC (FrC.rf.up (by decide) (by decide))))) dX7_passHour_138
      · refine V_iload_n 101 0 rfl rfl dX7_passHour_100 rfl ?_
        refine V_aload_n 102 1 rfl _ rfl rfl dX7_passHour_101 rfl ?_
        refine V_getR 105 3 7 0 4 hR3c flX7_12 rfl rfl rfl (by decide) dX7_passHour_102 rfl ?_
        refine V_getI 108 4 2 8 (nI (cM K)) hC1.2.2.1 flX7_83 rfl rfl rfl (by decide) dX7_passHour_105 rfl ?_
        refine V_icmp_ge 128 111 rfl dX7_passHour_108 rfl (fun c108 => absurd c108 (nI_ge hi (by omega))) (fun c108 => ?_)
        refine V_aload_n 112 2 rfl _ rfl rfl dX7_passHour_111 rfl ?_
        refine V_iload_n 113 0 rfl rfl dX7_passHour_112 rfl ?_
        refine V_aload_n 114 1 rfl _ rfl rfl dX7_passHour_113 rfl ?_
        refine V_getR 117 3 7 3 17 hR33 flX7_29 rfl rfl rfl (by decide) dX7_passHour_114 rfl ?_
        refine V_iload_n 118 0 rfl rfl dX7_passHour_117 rfl ?_
        refine V_ialdN 119 17 6 i (seaD K f D i) (hS1 i hi) (by omega) (by decide) rfl (by decide) dX7_passHour_118 rfl ?_
        refine V_callV (K' := 0) (S' := 0) 122 26 3 2 [.int (nI i), .int (seaD K f D i)] mkX3_take lkX7_97 (by decide) rfl rfl (by decide) rfl (Nat.le_of_ble_eq_true rfl) (Nat.le_of_ble_eq_true rfl) (Nat.le_of_ble_eq_true rfl) (Nat.le_of_ble_eq_true rfl) rfl rfl dX7_passHour_119 rfl (c_X3_take_26 hRK hD1 (by omega) (((hWD.hs2 hW (cM K) (Nat.le_refl _)).tk3 (S := seaD K f D) hW i (by omega)).at6 hW (by omega)) (fun I2 hD2 hF2 => ?_))
        refine Kq_v (k' := 0) (sl' := 0) rfl rfl ?_
        refine V_iinc 125 0 rfl (nI (i + 1)) [(2, .int (nI (i + 1))), (0, rf G 3), (1, rf G 26)] (nI_1 _) (by decide) rfl dX7_passHour_122 rfl ?_
        refine V_goto 100 rfl dX7_passHour_125 ?_
        exact V_lv [0, 1, 2] rfl (ih I2 (hC1.fr (fun a h1 h2 => hF2 a (by omega))) (fun j hj => by rw [hF2 17 (by decide)]; exact hS1 j hj) hD2 (hF1.tr (FrP.ofC hF2)))
    have L2 : ∀ i, i ≤ cM K → ∀ I1, CoastC I1 4 K → (∀ j, j < cM K → I1 17 j = seaD K f D j) → DayC I1 26 (hs2 K (seaD K f D) D i) → FrP I I1 26 58 → V G mX7_passHour (d + 1 + 1 + 1) 0 0 0 0 33 [(2, .int (nI i)), (0, rf G 3), (1, rf G 26)] [] 103 I1 R J Q := by
      refine loopd (cM K) (fun I1 hC1 hS1 hD1 hF1 => ?_) (fun i hi ih I1 hC1 hS1 hD1 hF1 => ?_)
      · refine V_iload_n 34 0 rfl rfl dX7_passHour_33 rfl ?_
        refine V_aload_n 35 1 rfl _ rfl rfl dX7_passHour_34 rfl ?_
        refine V_getR 38 3 7 0 4 hR3c flX7_12 rfl rfl rfl (by decide) dX7_passHour_35 rfl ?_
        refine V_getI 41 4 2 8 (nI (cM K)) hC1.2.2.1 flX7_83 rfl rfl rfl (by decide) dX7_passHour_38 rfl ?_
        refine V_icmp_ge 98 44 rfl dX7_passHour_41 rfl (fun c41 => ?_) (fun c41 => absurd (Int32.le_refl _) c41)
        refine V_iconst 99 (0) rfl dX7_passHour_98 rfl ?_
        refine V_istore_n 100 [(2, .int 0), (0, rf G 3), (1, rf G 26)] (by decide) rfl rfl dX7_passHour_99 rfl ?_
        exact V_lv [0, 1, 2] rfl (L3 0 (Nat.zero_le _) I1 hC1 hS1 hD1 hF1)
      · have hw1 := hWD.hs2 (S := seaD K f D) hW i (by omega)
        obtain ⟨E, hE⟩ : ∃ E, E = upd (hs2 K (seaD K f D) D i) (18 + i) (hs2 K (seaD K f D) D i (18 + i) + seaD K f D i) := ⟨_, rfl⟩
        have hEd : DayC (up2 I1 27 i (hs2 K (seaD K f D) D i (18 + i) + seaD K f D i)) 26 E := by rw [hE]; exact DayC_u1 hD1 (by omega)
        have hEF : Flg E := by rw [hE]; exact (hw1.u (by omega) (by omega)).1
        have hEC : CoastC (up2 I1 27 i (hs2 K (seaD K f D) D i (18 + i) + seaD K f D i)) 4 K := hC1.fr (fun a h1 h2 => up2_n _ _ _ (by omega))
        have hEP : FrP I (up2 I1 27 i (hs2 K (seaD K f D) D i (18 + i) + seaD K f D i)) 26 58 := hF1.tr (FrP.ofC (FrC.rf.up (by decide) (by decide)))
        have hnx : hs2 K (seaD K f D) D (i + 1) = (if cBt K i < E (18 + i) then (if E (30 + i) = 1 then dDie E i (cHr K i) else E) else E) := by rw [hE]; rfl
        refine V_iload_n 34 0 rfl rfl dX7_passHour_33 rfl ?_
        refine V_aload_n 35 1 rfl _ rfl rfl dX7_passHour_34 rfl ?_
        refine V_getR 38 3 7 0 4 hR3c flX7_12 rfl rfl rfl (by decide) dX7_passHour_35 rfl ?_
        refine V_getI 41 4 2 8 (nI (cM K)) hC1.2.2.1 flX7_83 rfl rfl rfl (by decide) dX7_passHour_38 rfl ?_
        refine V_icmp_ge 98 44 rfl dX7_passHour_41 rfl (fun c41 => absurd c41 (nI_ge hi (by omega))) (fun c41 => ?_)
        refine V_aload_n 45 2 rfl _ rfl rfl dX7_passHour_44 rfl ?_
        refine V_getR 48 26 3 0 27 (hRK 26 0 (by decide) (by decide) (by decide)) flX7_73 rfl rfl rfl (by decide) dX7_passHour_45 rfl ?_
        refine V_iload_n 49 0 rfl rfl dX7_passHour_48 rfl ?_
        refine V_dup2 50 rfl rfl dX7_passHour_49 rfl ?_
        refine V_ialdN 51 27 6 i (hs2 K (seaD K f D) D i (18 + i)) (hD1.1 i (by omega)) (by omega) (by decide) rfl (by decide) dX7_passHour_50 rfl ?_
        refine V_aload_n 52 1 rfl _ rfl rfl dX7_passHour_51 rfl ?_
        refine V_getR 55 3 7 3 17 hR33 flX7_29 rfl rfl rfl (by decide) dX7_passHour_52 rfl ?_
        refine V_iload_n 56 0 rfl rfl dX7_passHour_55 rfl ?_
        refine V_ialdN 57 17 6 i (seaD K f D i) (hS1 i hi) (by omega) (by decide) rfl (by decide) dX7_passHour_56 rfl ?_
        refine V_iadd 58 dX7_passHour_57 rfl ?_
        refine V_iastN 59 27 6 i (by omega) (by decide) rfl (by decide) dX7_passHour_58 rfl ?_
        refine V_aload_n 60 2 rfl _ rfl rfl dX7_passHour_59 rfl ?_
        refine V_getR 63 26 3 0 27 (hRK 26 0 (by decide) (by decide) (by decide)) flX7_73 rfl rfl rfl (by decide) dX7_passHour_60 rfl ?_
        refine V_iload_n 64 0 rfl rfl dX7_passHour_63 rfl ?_
        refine V_ialdN 65 27 6 i (E (18 + i)) (hEd.1 i (by omega)) (by omega) (by decide) rfl (by decide) dX7_passHour_64 rfl ?_
        refine V_aload_n 66 1 rfl _ rfl rfl dX7_passHour_65 rfl ?_
        refine V_getR 69 3 7 0 4 hR3c flX7_12 rfl rfl rfl (by decide) dX7_passHour_66 rfl ?_
        refine V_getR 72 4 2 4 9 (hRK 4 4 (by decide) (by decide) (by decide)) flX7_70 rfl rfl rfl (by decide) dX7_passHour_69 rfl ?_
        refine V_iload_n 73 0 rfl rfl dX7_passHour_72 rfl ?_
        refine V_ialdN 74 9 6 i (cBt K i) (hEC.2.2.2.2.2.2.2.1 i hi) (by omega) (by decide) rfl (by decide) dX7_passHour_73 rfl ?_
        refine V_icmp_le 92 77 rfl dX7_passHour_74 rfl (fun c74 => ?_) (fun c74 => ?_)
        · have hnx := (by first | exact hnx.trans (if_neg (Int32.not_lt.mpr c74)) | exact hnx : hs2 K (seaD K f D) D (i + 1) = E)
          refine V_iinc 95 0 rfl (nI (i + 1)) [(2, .int (nI (i + 1))), (0, rf G 3), (1, rf G 26)] (nI_1 _) (by decide) rfl dX7_passHour_92 rfl ?_
          refine V_goto 33 rfl dX7_passHour_95 ?_
          first | rw [hnx] at ih | skip
          exact V_lv [0, 1, 2] rfl (ih _ hEC (fun j hj => hS1 j hj) hEd hEP)
        · refine V_aload_n 78 2 rfl _ rfl rfl dX7_passHour_77 rfl ?_
          refine V_iload_n 79 0 rfl rfl dX7_passHour_78 rfl ?_
          refine V_aload_n 80 1 rfl _ rfl rfl dX7_passHour_79 rfl ?_
          refine V_getR 83 3 7 0 4 hR3c flX7_12 rfl rfl rfl (by decide) dX7_passHour_80 rfl ?_
          refine V_getR 86 4 2 5 10 (hRK 4 5 (by decide) (by decide) (by decide)) flX7_90 rfl rfl rfl (by decide) dX7_passHour_83 rfl ?_
          refine V_iload_n 87 0 rfl rfl dX7_passHour_86 rfl ?_
          refine V_ialdN 88 10 6 i (oI (cHr K i)) (hEC.2.2.2.2.2.2.2.2 i hi) (by omega) (by decide) rfl (by decide) dX7_passHour_87 rfl ?_
          refine V_callV (K' := 0) (S' := 0) 91 26 3 2 [.int (nI i), .int (oI (cHr K i))] mkX3_die lkX7_93 (by decide) rfl rfl (by decide) rfl (Nat.le_of_ble_eq_true rfl) (Nat.le_of_ble_eq_true rfl) (Nat.le_of_ble_eq_true rfl) (Nat.le_of_ble_eq_true rfl) rfl rfl dX7_passHour_88 rfl (c_X3_die_26 hRK (hkh i) hEd hEF (by omega) (fun e1 => ?_) (fun e1 I2 hD2 hF2 => ?_))
          · refine Kq_i (k' := 0) (sl' := 0) rfl rfl ?_
            have hnx := hnx.trans ((if_pos (Int32.not_le.mp c74)).trans (if_neg (by rw [e1]; decide)))
            refine V_pop 92 rfl dX7_passHour_91 rfl ?_
            have hnx := (by first | exact hnx.trans (if_neg (Int32.not_lt.mpr c74)) | exact hnx : hs2 K (seaD K f D) D (i + 1) = E)
            refine V_iinc 95 0 rfl (nI (i + 1)) [(2, .int (nI (i + 1))), (0, rf G 3), (1, rf G 26)] (nI_1 _) (by decide) rfl dX7_passHour_92 rfl ?_
            refine V_goto 33 rfl dX7_passHour_95 ?_
            first | rw [hnx] at ih | skip
            exact V_lv [0, 1, 2] rfl (ih _ hEC (fun j hj => hS1 j hj) hEd hEP)
          · refine Kq_i (k' := 0) (sl' := 0) rfl rfl ?_
            have hnx := hnx.trans ((if_pos (Int32.not_le.mp c74)).trans (if_pos e1))
            refine V_pop 92 rfl dX7_passHour_91 rfl ?_
            refine V_iinc 95 0 rfl (nI (i + 1)) [(2, .int (nI (i + 1))), (0, rf G 3), (1, rf G 26)] (nI_1 _) (by decide) rfl dX7_passHour_92 rfl ?_
            refine V_goto 33 rfl dX7_passHour_95 ?_
            rw [hnx] at ih
            exact V_lv [0, 1, 2] rfl (ih I2 (hEC.fr (fun a h1 h2 => hF2 a (by omega))) (fun j hj => by rw [hF2 17 (by decide)]; exact hS1 j hj) hD2 (hEP.tr (FrP.ofC hF2)))
    have L1 : ∀ i, i ≤ cM K → ∀ I1, CoastC I1 4 K → LawC I1 58 f → (∀ j, j < i → I1 17 j = seaD K f D j) → DayC I1 26 D → FrP I I1 26 58 → V G mX7_passHour (d + 1 + 1 + 1) 0 0 0 0 2 [(2, .int (nI i)), (0, rf G 3), (1, rf G 26)] [] 103 I1 R J Q := by
      refine loopd (cM K) (fun I1 hC1 hL1 hS1 hD1 hF1 => ?_) (fun i hi ih I1 hC1 hL1 hS1 hD1 hF1 => ?_)
      · refine V_iload_n 3 0 rfl rfl dX7_passHour_2 rfl ?_
        refine V_aload_n 4 1 rfl _ rfl rfl dX7_passHour_3 rfl ?_
        refine V_getR 7 3 7 0 4 hR3c flX7_12 rfl rfl rfl (by decide) dX7_passHour_4 rfl ?_
        refine V_getI 10 4 2 8 (nI (cM K)) hC1.2.2.1 flX7_83 rfl rfl rfl (by decide) dX7_passHour_7 rfl ?_
        refine V_icmp_ge 31 13 rfl dX7_passHour_10 rfl (fun c10 => ?_) (fun c10 => absurd (Int32.le_refl _) c10)
        refine V_iconst 32 (0) rfl dX7_passHour_31 rfl ?_
        refine V_istore_n 33 [(2, .int 0), (0, rf G 3), (1, rf G 26)] (by decide) rfl rfl dX7_passHour_32 rfl ?_
        exact V_lv [0, 1, 2] rfl (L2 0 (Nat.zero_le _) I1 hC1 hS1 hD1 hF1)
      · refine V_iload_n 3 0 rfl rfl dX7_passHour_2 rfl ?_
        refine V_aload_n 4 1 rfl _ rfl rfl dX7_passHour_3 rfl ?_
        refine V_getR 7 3 7 0 4 hR3c flX7_12 rfl rfl rfl (by decide) dX7_passHour_4 rfl ?_
        refine V_getI 10 4 2 8 (nI (cM K)) hC1.2.2.1 flX7_83 rfl rfl rfl (by decide) dX7_passHour_7 rfl ?_
        refine V_icmp_ge 31 13 rfl dX7_passHour_10 rfl (fun c10 => absurd c10 (nI_ge hi (by omega))) (fun c10 => ?_)
        refine V_aload_n 14 1 rfl _ rfl rfl dX7_passHour_13 rfl ?_
        refine V_getR 17 3 7 3 17 hR33 flX7_29 rfl rfl rfl (by decide) dX7_passHour_14 rfl ?_
        refine V_iload_n 18 0 rfl rfl dX7_passHour_17 rfl ?_
        refine V_aload_n 19 1 rfl _ rfl rfl dX7_passHour_18 rfl ?_
        refine V_aload_n 20 2 rfl _ rfl rfl dX7_passHour_19 rfl ?_
        refine V_iload_n 21 0 rfl rfl dX7_passHour_20 rfl ?_
        refine V_callV (K' := 0) (S' := 0) 24 3 7 2 [rf G 26, .int (nI i)] mkX7_seaOf lkX7_86 (by decide) rfl rfl (by decide) rfl (Nat.le_of_ble_eq_true rfl) (Nat.le_of_ble_eq_true rfl) (Nat.le_of_ble_eq_true rfl) (Nat.le_of_ble_eq_true rfl) rfl rfl dX7_passHour_21 rfl (c_X7_seaOf hRK hR3c hR3l hR32 hR33 hc0 ho0 hl0 hC1 hW hD1 hWD hL1 hi (fun I2 hI2 => ?_))
        refine Kq_i (k' := 0) (sl' := 0) rfl rfl ?_
        refine V_iastN 25 17 6 i (by omega) (by decide) rfl (by decide) dX7_passHour_24 rfl ?_
        refine V_iinc 28 0 rfl (nI (i + 1)) [(2, .int (nI (i + 1))), (0, rf G 3), (1, rf G 26)] (nI_1 _) (by decide) rfl dX7_passHour_25 rfl ?_
        refine V_goto 2 rfl dX7_passHour_28 ?_
        refine V_lv [0, 1, 2] rfl (ih (up2 I2 17 i (seaD K f D i)) (hC1.fr (fun a h1 h2 => by rw [up2_n _ _ _ (by omega)]; exact hI2 a (by omega) (by omega))) (hL1.fr (fun a h1 h2 => by rw [up2_n _ _ _ (by omega)]; exact hI2 a (by omega) (by omega))) (fun j hj => ?_) (hD1.fr (fun a h1 h2 => by rw [up2_n _ _ _ (by omega)]; exact hI2 a (by omega) (by omega))) (hF1.tr (fun a h1 h2 h3 h4 => by rw [up2_n _ _ _ h2]; exact hI2 a h1 h3)))
        rw [up2_s]; by_cases e : j = i
        · subst e; exact upd_s
        · rw [upd_n e, hI2 17 (by decide) (by decide)]; exact hS1 j (by omega)
    show V _ _ _ _ _ _ _ _ [(0, rf G 3), (1, rf G 26)] [] _ _ _ _ _
    refine V_iconst 1 (0) rfl dX7_passHour_0 rfl ?_
    refine V_istore_n 2 [(2, .int 0), (0, rf G 3), (1, rf G 26)] (by decide) rfl rfl dX7_passHour_1 rfl ?_
    exact V_lv [0, 1, 2] rfl (L1 0 (Nat.zero_le _) I hC hL (fun j hj => absurd hj (Nat.not_lt_zero j)) hD FrP.rf)
  · have L3 : ∀ i, i ≤ cM K → ∀ I1, CoastC I1 51 K → (∀ j, j < cM K → I1 17 j = seaD K f D j) → DayC I1 18 (tk3 (seaD K f D) (hs2 K (seaD K f D) D (cM K)) i) → FrP I I1 18 11 → V G mX7_passHour (d + 1 + 1 + 1) 0 0 0 0 100 [(2, .int (nI i)), (0, rf G 3), (1, rf G 18)] [] 103 I1 R J Q := by
      refine loopd (cM K) (fun I1 hC1 hS1 hD1 hF1 => ?_) (fun i hi ih I1 hC1 hS1 hD1 hF1 => ?_)
      · refine V_iload_n 101 0 rfl rfl dX7_passHour_100 rfl ?_
        refine V_aload_n 102 1 rfl _ rfl rfl dX7_passHour_101 rfl ?_
        refine V_getR 105 3 7 0 51 hR3c flX7_12 rfl rfl rfl (by decide) dX7_passHour_102 rfl ?_
        refine V_getI 108 51 2 8 (nI (cM K)) hC1.2.2.1 flX7_83 rfl rfl rfl (by decide) dX7_passHour_105 rfl ?_
        refine V_icmp_ge 128 111 rfl dX7_passHour_108 rfl (fun c108 => ?_) (fun c108 => absurd (Int32.le_refl _) c108)
        refine V_aload_n 129 2 rfl _ rfl rfl dX7_passHour_128 rfl ?_
        refine V_dup 130 rfl dX7_passHour_129 rfl ?_
        refine V_getI 133 18 3 7 (tk3 (seaD K f D) (hs2 K (seaD K f D) D (cM K)) (cM K) 50) hD1.2.2.2.2.2.2.2.1 flX7_79 rfl rfl rfl (by decide) dX7_passHour_130 rfl ?_
        refine V_iconst 134 (1) rfl dX7_passHour_133 rfl ?_
        refine V_iadd 135 dX7_passHour_134 rfl ?_
        refine V_putI 138 18 3 7 flX7_79 rfl rfl rfl (by decide) rfl dX7_passHour_135 rfl ?_
        refine V_ret_v rfl (Nat.le_refl _) (fun h => absurd h (by decide)) (Nat.le_refl _) (hq _ (DayC_hr hD1) (hF1.tr (FrP.ofC (FrC.rf.up (by decide) (by decide))))) dX7_passHour_138
      · refine V_iload_n 101 0 rfl rfl dX7_passHour_100 rfl ?_
        refine V_aload_n 102 1 rfl _ rfl rfl dX7_passHour_101 rfl ?_
        refine V_getR 105 3 7 0 51 hR3c flX7_12 rfl rfl rfl (by decide) dX7_passHour_102 rfl ?_
        refine V_getI 108 51 2 8 (nI (cM K)) hC1.2.2.1 flX7_83 rfl rfl rfl (by decide) dX7_passHour_105 rfl ?_
        refine V_icmp_ge 128 111 rfl dX7_passHour_108 rfl (fun c108 => absurd c108 (nI_ge hi (by omega))) (fun c108 => ?_)
        refine V_aload_n 112 2 rfl _ rfl rfl dX7_passHour_111 rfl ?_
        refine V_iload_n 113 0 rfl rfl dX7_passHour_112 rfl ?_
        refine V_aload_n 114 1 rfl _ rfl rfl dX7_passHour_113 rfl ?_
        refine V_getR 117 3 7 3 17 hR33 flX7_29 rfl rfl rfl (by decide) dX7_passHour_114 rfl ?_
        refine V_iload_n 118 0 rfl rfl dX7_passHour_117 rfl ?_
        refine V_ialdN 119 17 6 i (seaD K f D i) (hS1 i hi) (by omega) (by decide) rfl (by decide) dX7_passHour_118 rfl ?_
        refine V_callV (K' := 0) (S' := 0) 122 18 3 2 [.int (nI i), .int (seaD K f D i)] mkX3_take lkX7_97 (by decide) rfl rfl (by decide) rfl (Nat.le_of_ble_eq_true rfl) (Nat.le_of_ble_eq_true rfl) (Nat.le_of_ble_eq_true rfl) (Nat.le_of_ble_eq_true rfl) rfl rfl dX7_passHour_119 rfl (c_X3_take_18 hRK hD1 (by omega) (((hWD.hs2 hW (cM K) (Nat.le_refl _)).tk3 (S := seaD K f D) hW i (by omega)).at6 hW (by omega)) (fun I2 hD2 hF2 => ?_))
        refine Kq_v (k' := 0) (sl' := 0) rfl rfl ?_
        refine V_iinc 125 0 rfl (nI (i + 1)) [(2, .int (nI (i + 1))), (0, rf G 3), (1, rf G 18)] (nI_1 _) (by decide) rfl dX7_passHour_122 rfl ?_
        refine V_goto 100 rfl dX7_passHour_125 ?_
        exact V_lv [0, 1, 2] rfl (ih I2 (hC1.fr (fun a h1 h2 => hF2 a (by omega))) (fun j hj => by rw [hF2 17 (by decide)]; exact hS1 j hj) hD2 (hF1.tr (FrP.ofC hF2)))
    have L2 : ∀ i, i ≤ cM K → ∀ I1, CoastC I1 51 K → (∀ j, j < cM K → I1 17 j = seaD K f D j) → DayC I1 18 (hs2 K (seaD K f D) D i) → FrP I I1 18 11 → V G mX7_passHour (d + 1 + 1 + 1) 0 0 0 0 33 [(2, .int (nI i)), (0, rf G 3), (1, rf G 18)] [] 103 I1 R J Q := by
      refine loopd (cM K) (fun I1 hC1 hS1 hD1 hF1 => ?_) (fun i hi ih I1 hC1 hS1 hD1 hF1 => ?_)
      · refine V_iload_n 34 0 rfl rfl dX7_passHour_33 rfl ?_
        refine V_aload_n 35 1 rfl _ rfl rfl dX7_passHour_34 rfl ?_
        refine V_getR 38 3 7 0 51 hR3c flX7_12 rfl rfl rfl (by decide) dX7_passHour_35 rfl ?_
        refine V_getI 41 51 2 8 (nI (cM K)) hC1.2.2.1 flX7_83 rfl rfl rfl (by decide) dX7_passHour_38 rfl ?_
        refine V_icmp_ge 98 44 rfl dX7_passHour_41 rfl (fun c41 => ?_) (fun c41 => absurd (Int32.le_refl _) c41)
        refine V_iconst 99 (0) rfl dX7_passHour_98 rfl ?_
        refine V_istore_n 100 [(2, .int 0), (0, rf G 3), (1, rf G 18)] (by decide) rfl rfl dX7_passHour_99 rfl ?_
        exact V_lv [0, 1, 2] rfl (L3 0 (Nat.zero_le _) I1 hC1 hS1 hD1 hF1)
      · have hw1 := hWD.hs2 (S := seaD K f D) hW i (by omega)
        obtain ⟨E, hE⟩ : ∃ E, E = upd (hs2 K (seaD K f D) D i) (18 + i) (hs2 K (seaD K f D) D i (18 + i) + seaD K f D i) := ⟨_, rfl⟩
        have hEd : DayC (up2 I1 19 i (hs2 K (seaD K f D) D i (18 + i) + seaD K f D i)) 18 E := by rw [hE]; exact DayC_u1 hD1 (by omega)
        have hEF : Flg E := by rw [hE]; exact (hw1.u (by omega) (by omega)).1
        have hEC : CoastC (up2 I1 19 i (hs2 K (seaD K f D) D i (18 + i) + seaD K f D i)) 51 K := hC1.fr (fun a h1 h2 => up2_n _ _ _ (by omega))
        have hEP : FrP I (up2 I1 19 i (hs2 K (seaD K f D) D i (18 + i) + seaD K f D i)) 18 11 := hF1.tr (FrP.ofC (FrC.rf.up (by decide) (by decide)))
        have hnx : hs2 K (seaD K f D) D (i + 1) = (if cBt K i < E (18 + i) then (if E (30 + i) = 1 then dDie E i (cHr K i) else E) else E) := by rw [hE]; rfl
        refine V_iload_n 34 0 rfl rfl dX7_passHour_33 rfl ?_
        refine V_aload_n 35 1 rfl _ rfl rfl dX7_passHour_34 rfl ?_
        refine V_getR 38 3 7 0 51 hR3c flX7_12 rfl rfl rfl (by decide) dX7_passHour_35 rfl ?_
        refine V_getI 41 51 2 8 (nI (cM K)) hC1.2.2.1 flX7_83 rfl rfl rfl (by decide) dX7_passHour_38 rfl ?_
        refine V_icmp_ge 98 44 rfl dX7_passHour_41 rfl (fun c41 => absurd c41 (nI_ge hi (by omega))) (fun c41 => ?_)
        refine V_aload_n 45 2 rfl _ rfl rfl dX7_passHour_44 rfl ?_
        refine V_getR 48 18 3 0 19 (hRK 18 0 (by decide) (by decide) (by decide)) flX7_73 rfl rfl rfl (by decide) dX7_passHour_45 rfl ?_
        refine V_iload_n 49 0 rfl rfl dX7_passHour_48 rfl ?_
        refine V_dup2 50 rfl rfl dX7_passHour_49 rfl ?_
        refine V_ialdN 51 19 6 i (hs2 K (seaD K f D) D i (18 + i)) (hD1.1 i (by omega)) (by omega) (by decide) rfl (by decide) dX7_passHour_50 rfl ?_
        refine V_aload_n 52 1 rfl _ rfl rfl dX7_passHour_51 rfl ?_
        refine V_getR 55 3 7 3 17 hR33 flX7_29 rfl rfl rfl (by decide) dX7_passHour_52 rfl ?_
        refine V_iload_n 56 0 rfl rfl dX7_passHour_55 rfl ?_
        refine V_ialdN 57 17 6 i (seaD K f D i) (hS1 i hi) (by omega) (by decide) rfl (by decide) dX7_passHour_56 rfl ?_
        refine V_iadd 58 dX7_passHour_57 rfl ?_
        refine V_iastN 59 19 6 i (by omega) (by decide) rfl (by decide) dX7_passHour_58 rfl ?_
        refine V_aload_n 60 2 rfl _ rfl rfl dX7_passHour_59 rfl ?_
        refine V_getR 63 18 3 0 19 (hRK 18 0 (by decide) (by decide) (by decide)) flX7_73 rfl rfl rfl (by decide) dX7_passHour_60 rfl ?_
        refine V_iload_n 64 0 rfl rfl dX7_passHour_63 rfl ?_
        refine V_ialdN 65 19 6 i (E (18 + i)) (hEd.1 i (by omega)) (by omega) (by decide) rfl (by decide) dX7_passHour_64 rfl ?_
        refine V_aload_n 66 1 rfl _ rfl rfl dX7_passHour_65 rfl ?_
        refine V_getR 69 3 7 0 51 hR3c flX7_12 rfl rfl rfl (by decide) dX7_passHour_66 rfl ?_
        refine V_getR 72 51 2 4 56 (hRK 51 4 (by decide) (by decide) (by decide)) flX7_70 rfl rfl rfl (by decide) dX7_passHour_69 rfl ?_
        refine V_iload_n 73 0 rfl rfl dX7_passHour_72 rfl ?_
        refine V_ialdN 74 56 6 i (cBt K i) (hEC.2.2.2.2.2.2.2.1 i hi) (by omega) (by decide) rfl (by decide) dX7_passHour_73 rfl ?_
        refine V_icmp_le 92 77 rfl dX7_passHour_74 rfl (fun c74 => ?_) (fun c74 => ?_)
        · have hnx := (by first | exact hnx.trans (if_neg (Int32.not_lt.mpr c74)) | exact hnx : hs2 K (seaD K f D) D (i + 1) = E)
          refine V_iinc 95 0 rfl (nI (i + 1)) [(2, .int (nI (i + 1))), (0, rf G 3), (1, rf G 18)] (nI_1 _) (by decide) rfl dX7_passHour_92 rfl ?_
          refine V_goto 33 rfl dX7_passHour_95 ?_
          first | rw [hnx] at ih | skip
          exact V_lv [0, 1, 2] rfl (ih _ hEC (fun j hj => hS1 j hj) hEd hEP)
        · refine V_aload_n 78 2 rfl _ rfl rfl dX7_passHour_77 rfl ?_
          refine V_iload_n 79 0 rfl rfl dX7_passHour_78 rfl ?_
          refine V_aload_n 80 1 rfl _ rfl rfl dX7_passHour_79 rfl ?_
          refine V_getR 83 3 7 0 51 hR3c flX7_12 rfl rfl rfl (by decide) dX7_passHour_80 rfl ?_
          refine V_getR 86 51 2 5 57 (hRK 51 5 (by decide) (by decide) (by decide)) flX7_90 rfl rfl rfl (by decide) dX7_passHour_83 rfl ?_
          refine V_iload_n 87 0 rfl rfl dX7_passHour_86 rfl ?_
          refine V_ialdN 88 57 6 i (oI (cHr K i)) (hEC.2.2.2.2.2.2.2.2 i hi) (by omega) (by decide) rfl (by decide) dX7_passHour_87 rfl ?_
          refine V_callV (K' := 0) (S' := 0) 91 18 3 2 [.int (nI i), .int (oI (cHr K i))] mkX3_die lkX7_93 (by decide) rfl rfl (by decide) rfl (Nat.le_of_ble_eq_true rfl) (Nat.le_of_ble_eq_true rfl) (Nat.le_of_ble_eq_true rfl) (Nat.le_of_ble_eq_true rfl) rfl rfl dX7_passHour_88 rfl (c_X3_die_18 hRK (hkh i) hEd hEF (by omega) (fun e1 => ?_) (fun e1 I2 hD2 hF2 => ?_))
          · refine Kq_i (k' := 0) (sl' := 0) rfl rfl ?_
            have hnx := hnx.trans ((if_pos (Int32.not_le.mp c74)).trans (if_neg (by rw [e1]; decide)))
            refine V_pop 92 rfl dX7_passHour_91 rfl ?_
            have hnx := (by first | exact hnx.trans (if_neg (Int32.not_lt.mpr c74)) | exact hnx : hs2 K (seaD K f D) D (i + 1) = E)
            refine V_iinc 95 0 rfl (nI (i + 1)) [(2, .int (nI (i + 1))), (0, rf G 3), (1, rf G 18)] (nI_1 _) (by decide) rfl dX7_passHour_92 rfl ?_
            refine V_goto 33 rfl dX7_passHour_95 ?_
            first | rw [hnx] at ih | skip
            exact V_lv [0, 1, 2] rfl (ih _ hEC (fun j hj => hS1 j hj) hEd hEP)
          · refine Kq_i (k' := 0) (sl' := 0) rfl rfl ?_
            have hnx := hnx.trans ((if_pos (Int32.not_le.mp c74)).trans (if_pos e1))
            refine V_pop 92 rfl dX7_passHour_91 rfl ?_
            refine V_iinc 95 0 rfl (nI (i + 1)) [(2, .int (nI (i + 1))), (0, rf G 3), (1, rf G 18)] (nI_1 _) (by decide) rfl dX7_passHour_92 rfl ?_
            refine V_goto 33 rfl dX7_passHour_95 ?_
            rw [hnx] at ih
            exact V_lv [0, 1, 2] rfl (ih I2 (hEC.fr (fun a h1 h2 => hF2 a (by omega))) (fun j hj => by rw [hF2 17 (by decide)]; exact hS1 j hj) hD2 (hEP.tr (FrP.ofC hF2)))
    have L1 : ∀ i, i ≤ cM K → ∀ I1, CoastC I1 51 K → LawC I1 11 f → (∀ j, j < i → I1 17 j = seaD K f D j) → DayC I1 18 D → FrP I I1 18 11 → V G mX7_passHour (d + 1 + 1 + 1) 0 0 0 0 2 [(2, .int (nI i)), (0, rf G 3), (1, rf G 18)] [] 103 I1 R J Q := by
      refine loopd (cM K) (fun I1 hC1 hL1 hS1 hD1 hF1 => ?_) (fun i hi ih I1 hC1 hL1 hS1 hD1 hF1 => ?_)
      · refine V_iload_n 3 0 rfl rfl dX7_passHour_2 rfl ?_
        refine V_aload_n 4 1 rfl _ rfl rfl dX7_passHour_3 rfl ?_
        refine V_getR 7 3 7 0 51 hR3c flX7_12 rfl rfl rfl (by decide) dX7_passHour_4 rfl ?_
        refine V_getI 10 51 2 8 (nI (cM K)) hC1.2.2.1 flX7_83 rfl rfl rfl (by decide) dX7_passHour_7 rfl ?_
        refine V_icmp_ge 31 13 rfl dX7_passHour_10 rfl (fun c10 => ?_) (fun c10 => absurd (Int32.le_refl _) c10)
        refine V_iconst 32 (0) rfl dX7_passHour_31 rfl ?_
        refine V_istore_n 33 [(2, .int 0), (0, rf G 3), (1, rf G 18)] (by decide) rfl rfl dX7_passHour_32 rfl ?_
        exact V_lv [0, 1, 2] rfl (L2 0 (Nat.zero_le _) I1 hC1 hS1 hD1 hF1)
      · refine V_iload_n 3 0 rfl rfl dX7_passHour_2 rfl ?_
        refine V_aload_n 4 1 rfl _ rfl rfl dX7_passHour_3 rfl ?_
        refine V_getR 7 3 7 0 51 hR3c flX7_12 rfl rfl rfl (by decide) dX7_passHour_4 rfl ?_
        refine V_getI 10 51 2 8 (nI (cM K)) hC1.2.2.1 flX7_83 rfl rfl rfl (by decide) dX7_passHour_7 rfl ?_
        refine V_icmp_ge 31 13 rfl dX7_passHour_10 rfl (fun c10 => absurd c10 (nI_ge hi (by omega))) (fun c10 => ?_)
        refine V_aload_n 14 1 rfl _ rfl rfl dX7_passHour_13 rfl ?_
        refine V_getR 17 3 7 3 17 hR33 flX7_29 rfl rfl rfl (by decide) dX7_passHour_14 rfl ?_
        refine V_iload_n 18 0 rfl rfl dX7_passHour_17 rfl ?_
        refine V_aload_n 19 1 rfl _ rfl rfl dX7_passHour_18 rfl ?_
        refine V_aload_n 20 2 rfl _ rfl rfl dX7_passHour_19 rfl ?_
        refine V_iload_n 21 0 rfl rfl dX7_passHour_20 rfl ?_
        refine V_callV (K' := 0) (S' := 0) 24 3 7 2 [rf G 18, .int (nI i)] mkX7_seaOf lkX7_86 (by decide) rfl rfl (by decide) rfl (Nat.le_of_ble_eq_true rfl) (Nat.le_of_ble_eq_true rfl) (Nat.le_of_ble_eq_true rfl) (Nat.le_of_ble_eq_true rfl) rfl rfl dX7_passHour_21 rfl (c_X7_seaOf hRK hR3c hR3l hR32 hR33 hc0 ho0 hl0 hC1 hW hD1 hWD hL1 hi (fun I2 hI2 => ?_))
        refine Kq_i (k' := 0) (sl' := 0) rfl rfl ?_
        refine V_iastN 25 17 6 i (by omega) (by decide) rfl (by decide) dX7_passHour_24 rfl ?_
        refine V_iinc 28 0 rfl (nI (i + 1)) [(2, .int (nI (i + 1))), (0, rf G 3), (1, rf G 18)] (nI_1 _) (by decide) rfl dX7_passHour_25 rfl ?_
        refine V_goto 2 rfl dX7_passHour_28 ?_
        refine V_lv [0, 1, 2] rfl (ih (up2 I2 17 i (seaD K f D i)) (hC1.fr (fun a h1 h2 => by rw [up2_n _ _ _ (by omega)]; exact hI2 a (by omega) (by omega))) (hL1.fr (fun a h1 h2 => by rw [up2_n _ _ _ (by omega)]; exact hI2 a (by omega) (by omega))) (fun j hj => ?_) (hD1.fr (fun a h1 h2 => by rw [up2_n _ _ _ (by omega)]; exact hI2 a (by omega) (by omega))) (hF1.tr (fun a h1 h2 h3 h4 => by rw [up2_n _ _ _ h2]; exact hI2 a h1 h3)))
        rw [up2_s]; by_cases e : j = i
        · subst e; exact upd_s
        · rw [upd_n e, hI2 17 (by decide) (by decide)]; exact hS1 j (by omega)
    show V _ _ _ _ _ _ _ _ [(0, rf G 3), (1, rf G 18)] [] _ _ _ _ _
    refine V_iconst 1 (0) rfl dX7_passHour_0 rfl ?_
    refine V_istore_n 2 [(2, .int 0), (0, rf G 3), (1, rf G 18)] (by decide) rfl rfl dX7_passHour_1 rfl ?_
    exact V_lv [0, 1, 2] rfl (L1 0 (Nat.zero_le _) I hC hL (fun j hj => absurd hj (Nat.not_lt_zero j)) hD FrP.rf)
  · have L3 : ∀ i, i ≤ cM K → ∀ I1, CoastC I1 51 K → (∀ j, j < cM K → I1 17 j = seaD K f D j) → DayC I1 18 (tk3 (seaD K f D) (hs2 K (seaD K f D) D (cM K)) i) → FrP I I1 18 58 → V G mX7_passHour (d + 1 + 1 + 1) 0 0 0 0 100 [(2, .int (nI i)), (0, rf G 3), (1, rf G 18)] [] 103 I1 R J Q := by
      refine loopd (cM K) (fun I1 hC1 hS1 hD1 hF1 => ?_) (fun i hi ih I1 hC1 hS1 hD1 hF1 => ?_)
      · refine V_iload_n 101 0 rfl rfl dX7_passHour_100 rfl ?_
        refine V_aload_n 102 1 rfl _ rfl rfl dX7_passHour_101 rfl ?_
        refine V_getR 105 3 7 0 51 hR3c flX7_12 rfl rfl rfl (by decide) dX7_passHour_102 rfl ?_
        refine V_getI 108 51 2 8 (nI (cM K)) hC1.2.2.1 flX7_83 rfl rfl rfl (by decide) dX7_passHour_105 rfl ?_
        refine V_icmp_ge 128 111 rfl dX7_passHour_108 rfl (fun c108 => ?_) (fun c108 => absurd (Int32.le_refl _) c108)
        refine V_aload_n 129 2 rfl _ rfl rfl dX7_passHour_128 rfl ?_
        refine V_dup 130 rfl dX7_passHour_129 rfl ?_
        refine V_getI 133 18 3 7 (tk3 (seaD K f D) (hs2 K (seaD K f D) D (cM K)) (cM K) 50) hD1.2.2.2.2.2.2.2.1 flX7_79 rfl rfl rfl (by decide) dX7_passHour_130 rfl ?_
        refine V_iconst 134 (1) rfl dX7_passHour_133 rfl ?_
        refine V_iadd 135 dX7_passHour_134 rfl ?_
        refine V_putI 138 18 3 7 flX7_79 rfl rfl rfl (by decide) rfl dX7_passHour_135 rfl ?_
        refine V_ret_v rfl (Nat.le_refl _) (fun h => absurd h (by decide)) (Nat.le_refl _) (hq _ (DayC_hr hD1) (hF1.tr (FrP.ofC (FrC.rf.up (by decide) (by decide))))) dX7_passHour_138
      · refine V_iload_n 101 0 rfl rfl dX7_passHour_100 rfl ?_
        refine V_aload_n 102 1 rfl _ rfl rfl dX7_passHour_101 rfl ?_
        refine V_getR 105 3 7 0 51 hR3c flX7_12 rfl rfl rfl (by decide) dX7_passHour_102 rfl ?_
        refine V_getI 108 51 2 8 (nI (cM K)) hC1.2.2.1 flX7_83 rfl rfl rfl (by decide) dX7_passHour_105 rfl ?_
        refine V_icmp_ge 128 111 rfl dX7_passHour_108 rfl (fun c108 => absurd c108 (nI_ge hi (by omega))) (fun c108 => ?_)
        refine V_aload_n 112 2 rfl _ rfl rfl dX7_passHour_111 rfl ?_
        refine V_iload_n 113 0 rfl rfl dX7_passHour_112 rfl ?_
        refine V_aload_n 114 1 rfl _ rfl rfl dX7_passHour_113 rfl ?_
        refine V_getR 117 3 7 3 17 hR33 flX7_29 rfl rfl rfl (by decide) dX7_passHour_114 rfl ?_
        refine V_iload_n 118 0 rfl rfl dX7_passHour_117 rfl ?_
        refine V_ialdN 119 17 6 i (seaD K f D i) (hS1 i hi) (by omega) (by decide) rfl (by decide) dX7_passHour_118 rfl ?_
        refine V_callV (K' := 0) (S' := 0) 122 18 3 2 [.int (nI i), .int (seaD K f D i)] mkX3_take lkX7_97 (by decide) rfl rfl (by decide) rfl (Nat.le_of_ble_eq_true rfl) (Nat.le_of_ble_eq_true rfl) (Nat.le_of_ble_eq_true rfl) (Nat.le_of_ble_eq_true rfl) rfl rfl dX7_passHour_119 rfl (c_X3_take_18 hRK hD1 (by omega) (((hWD.hs2 hW (cM K) (Nat.le_refl _)).tk3 (S := seaD K f D) hW i (by omega)).at6 hW (by omega)) (fun I2 hD2 hF2 => ?_))
        refine Kq_v (k' := 0) (sl' := 0) rfl rfl ?_
        refine V_iinc 125 0 rfl (nI (i + 1)) [(2, .int (nI (i + 1))), (0, rf G 3), (1, rf G 18)] (nI_1 _) (by decide) rfl dX7_passHour_122 rfl ?_
        refine V_goto 100 rfl dX7_passHour_125 ?_
        exact V_lv [0, 1, 2] rfl (ih I2 (hC1.fr (fun a h1 h2 => hF2 a (by omega))) (fun j hj => by rw [hF2 17 (by decide)]; exact hS1 j hj) hD2 (hF1.tr (FrP.ofC hF2)))
    have L2 : ∀ i, i ≤ cM K → ∀ I1, CoastC I1 51 K → (∀ j, j < cM K → I1 17 j = seaD K f D j) → DayC I1 18 (hs2 K (seaD K f D) D i) → FrP I I1 18 58 → V G mX7_passHour (d + 1 + 1 + 1) 0 0 0 0 33 [(2, .int (nI i)), (0, rf G 3), (1, rf G 18)] [] 103 I1 R J Q := by
      refine loopd (cM K) (fun I1 hC1 hS1 hD1 hF1 => ?_) (fun i hi ih I1 hC1 hS1 hD1 hF1 => ?_)
      · refine V_iload_n 34 0 rfl rfl dX7_passHour_33 rfl ?_
        refine V_aload_n 35 1 rfl _ rfl rfl dX7_passHour_34 rfl ?_
        refine V_getR 38 3 7 0 51 hR3c flX7_12 rfl rfl rfl (by decide) dX7_passHour_35 rfl ?_
        refine V_getI 41 51 2 8 (nI (cM K)) hC1.2.2.1 flX7_83 rfl rfl rfl (by decide) dX7_passHour_38 rfl ?_
        refine V_icmp_ge 98 44 rfl dX7_passHour_41 rfl (fun c41 => ?_) (fun c41 => absurd (Int32.le_refl _) c41)
        refine V_iconst 99 (0) rfl dX7_passHour_98 rfl ?_
        refine V_istore_n 100 [(2, .int 0), (0, rf G 3), (1, rf G 18)] (by decide) rfl rfl dX7_passHour_99 rfl ?_
        exact V_lv [0, 1, 2] rfl (L3 0 (Nat.zero_le _) I1 hC1 hS1 hD1 hF1)
      · have hw1 := hWD.hs2 (S := seaD K f D) hW i (by omega)
        obtain ⟨E, hE⟩ : ∃ E, E = upd (hs2 K (seaD K f D) D i) (18 + i) (hs2 K (seaD K f D) D i (18 + i) + seaD K f D i) := ⟨_, rfl⟩
        have hEd : DayC (up2 I1 19 i (hs2 K (seaD K f D) D i (18 + i) + seaD K f D i)) 18 E := by rw [hE]; exact DayC_u1 hD1 (by omega)
        have hEF : Flg E := by rw [hE]; exact (hw1.u (by omega) (by omega)).1
        have hEC : CoastC (up2 I1 19 i (hs2 K (seaD K f D) D i (18 + i) + seaD K f D i)) 51 K := hC1.fr (fun a h1 h2 => up2_n _ _ _ (by omega))
        have hEP : FrP I (up2 I1 19 i (hs2 K (seaD K f D) D i (18 + i) + seaD K f D i)) 18 58 := hF1.tr (FrP.ofC (FrC.rf.up (by decide) (by decide)))
        have hnx : hs2 K (seaD K f D) D (i + 1) = (if cBt K i < E (18 + i) then (if E (30 + i) = 1 then dDie E i (cHr K i) else E) else E) := by rw [hE]; rfl
        refine V_iload_n 34 0 rfl rfl dX7_passHour_33 rfl ?_
        refine V_aload_n 35 1 rfl _ rfl rfl dX7_passHour_34 rfl ?_
        refine V_getR 38 3 7 0 51 hR3c flX7_12 rfl rfl rfl (by decide) dX7_passHour_35 rfl ?_
        refine V_getI 41 51 2 8 (nI (cM K)) hC1.2.2.1 flX7_83 rfl rfl rfl (by decide) dX7_passHour_38 rfl ?_
        refine V_icmp_ge 98 44 rfl dX7_passHour_41 rfl (fun c41 => absurd c41 (nI_ge hi (by omega))) (fun c41 => ?_)
        refine V_aload_n 45 2 rfl _ rfl rfl dX7_passHour_44 rfl ?_
        refine V_getR 48 18 3 0 19 (hRK 18 0 (by decide) (by decide) (by decide)) flX7_73 rfl rfl rfl (by decide) dX7_passHour_45 rfl ?_
        refine V_iload_n 49 0 rfl rfl dX7_passHour_48 rfl ?_
        refine V_dup2 50 rfl rfl dX7_passHour_49 rfl ?_
        refine V_ialdN 51 19 6 i (hs2 K (seaD K f D) D i (18 + i)) (hD1.1 i (by omega)) (by omega) (by decide) rfl (by decide) dX7_passHour_50 rfl ?_
        refine V_aload_n 52 1 rfl _ rfl rfl dX7_passHour_51 rfl ?_
        refine V_getR 55 3 7 3 17 hR33 flX7_29 rfl rfl rfl (by decide) dX7_passHour_52 rfl ?_
        refine V_iload_n 56 0 rfl rfl dX7_passHour_55 rfl ?_
        refine V_ialdN 57 17 6 i (seaD K f D i) (hS1 i hi) (by omega) (by decide) rfl (by decide) dX7_passHour_56 rfl ?_
        refine V_iadd 58 dX7_passHour_57 rfl ?_
        refine V_iastN 59 19 6 i (by omega) (by decide) rfl (by decide) dX7_passHour_58 rfl ?_
        refine V_aload_n 60 2 rfl _ rfl rfl dX7_passHour_59 rfl ?_
        refine V_getR 63 18 3 0 19 (hRK 18 0 (by decide) (by decide) (by decide)) flX7_73 rfl rfl rfl (by decide) dX7_passHour_60 rfl ?_
        refine V_iload_n 64 0 rfl rfl dX7_passHour_63 rfl ?_
        refine V_ialdN 65 19 6 i (E (18 + i)) (hEd.1 i (by omega)) (by omega) (by decide) rfl (by decide) dX7_passHour_64 rfl ?_
        refine V_aload_n 66 1 rfl _ rfl rfl dX7_passHour_65 rfl ?_
        refine V_getR 69 3 7 0 51 hR3c flX7_12 rfl rfl rfl (by decide) dX7_passHour_66 rfl ?_
        refine V_getR 72 51 2 4 56 (hRK 51 4 (by decide) (by decide) (by decide)) flX7_70 rfl rfl rfl (by decide) dX7_passHour_69 rfl ?_
        refine V_iload_n 73 0 rfl rfl dX7_passHour_72 rfl ?_
        refine V_ialdN 74 56 6 i (cBt K i) (hEC.2.2.2.2.2.2.2.1 i hi) (by omega) (by decide) rfl (by decide) dX7_passHour_73 rfl ?_
        refine V_icmp_le 92 77 rfl dX7_passHour_74 rfl (fun c74 => ?_) (fun c74 => ?_)
        · have hnx := (by first | exact hnx.trans (if_neg (Int32.not_lt.mpr c74)) | exact hnx : hs2 K (seaD K f D) D (i + 1) = E)
          refine V_iinc 95 0 rfl (nI (i + 1)) [(2, .int (nI (i + 1))), (0, rf G 3), (1, rf G 18)] (nI_1 _) (by decide) rfl dX7_passHour_92 rfl ?_
          refine V_goto 33 rfl dX7_passHour_95 ?_
          first | rw [hnx] at ih | skip
          exact V_lv [0, 1, 2] rfl (ih _ hEC (fun j hj => hS1 j hj) hEd hEP)
        · refine V_aload_n 78 2 rfl _ rfl rfl dX7_passHour_77 rfl ?_
          refine V_iload_n 79 0 rfl rfl dX7_passHour_78 rfl ?_
          refine V_aload_n 80 1 rfl _ rfl rfl dX7_passHour_79 rfl ?_
          refine V_getR 83 3 7 0 51 hR3c flX7_12 rfl rfl rfl (by decide) dX7_passHour_80 rfl ?_
          refine V_getR 86 51 2 5 57 (hRK 51 5 (by decide) (by decide) (by decide)) flX7_90 rfl rfl rfl (by decide) dX7_passHour_83 rfl ?_
          refine V_iload_n 87 0 rfl rfl dX7_passHour_86 rfl ?_
          refine V_ialdN 88 57 6 i (oI (cHr K i)) (hEC.2.2.2.2.2.2.2.2 i hi) (by omega) (by decide) rfl (by decide) dX7_passHour_87 rfl ?_
          refine V_callV (K' := 0) (S' := 0) 91 18 3 2 [.int (nI i), .int (oI (cHr K i))] mkX3_die lkX7_93 (by decide) rfl rfl (by decide) rfl (Nat.le_of_ble_eq_true rfl) (Nat.le_of_ble_eq_true rfl) (Nat.le_of_ble_eq_true rfl) (Nat.le_of_ble_eq_true rfl) rfl rfl dX7_passHour_88 rfl (c_X3_die_18 hRK (hkh i) hEd hEF (by omega) (fun e1 => ?_) (fun e1 I2 hD2 hF2 => ?_))
          · refine Kq_i (k' := 0) (sl' := 0) rfl rfl ?_
            have hnx := hnx.trans ((if_pos (Int32.not_le.mp c74)).trans (if_neg (by rw [e1]; decide)))
            refine V_pop 92 rfl dX7_passHour_91 rfl ?_
            have hnx := (by first | exact hnx.trans (if_neg (Int32.not_lt.mpr c74)) | exact hnx : hs2 K (seaD K f D) D (i + 1) = E)
            refine V_iinc 95 0 rfl (nI (i + 1)) [(2, .int (nI (i + 1))), (0, rf G 3), (1, rf G 18)] (nI_1 _) (by decide) rfl dX7_passHour_92 rfl ?_
            refine V_goto 33 rfl dX7_passHour_95 ?_
            first | rw [hnx] at ih | skip
            exact V_lv [0, 1, 2] rfl (ih _ hEC (fun j hj => hS1 j hj) hEd hEP)
          · refine Kq_i (k' := 0) (sl' := 0) rfl rfl ?_
            have hnx := hnx.trans ((if_pos (Int32.not_le.mp c74)).trans (if_pos e1))
            refine V_pop 92 rfl dX7_passHour_91 rfl ?_
            refine V_iinc 95 0 rfl (nI (i + 1)) [(2, .int (nI (i + 1))), (0, rf G 3), (1, rf G 18)] (nI_1 _) (by decide) rfl dX7_passHour_92 rfl ?_
            refine V_goto 33 rfl dX7_passHour_95 ?_
            rw [hnx] at ih
            exact V_lv [0, 1, 2] rfl (ih I2 (hEC.fr (fun a h1 h2 => hF2 a (by omega))) (fun j hj => by rw [hF2 17 (by decide)]; exact hS1 j hj) hD2 (hEP.tr (FrP.ofC hF2)))
    have L1 : ∀ i, i ≤ cM K → ∀ I1, CoastC I1 51 K → LawC I1 58 f → (∀ j, j < i → I1 17 j = seaD K f D j) → DayC I1 18 D → FrP I I1 18 58 → V G mX7_passHour (d + 1 + 1 + 1) 0 0 0 0 2 [(2, .int (nI i)), (0, rf G 3), (1, rf G 18)] [] 103 I1 R J Q := by
      refine loopd (cM K) (fun I1 hC1 hL1 hS1 hD1 hF1 => ?_) (fun i hi ih I1 hC1 hL1 hS1 hD1 hF1 => ?_)
      · refine V_iload_n 3 0 rfl rfl dX7_passHour_2 rfl ?_
        refine V_aload_n 4 1 rfl _ rfl rfl dX7_passHour_3 rfl ?_
        refine V_getR 7 3 7 0 51 hR3c flX7_12 rfl rfl rfl (by decide) dX7_passHour_4 rfl ?_
        refine V_getI 10 51 2 8 (nI (cM K)) hC1.2.2.1 flX7_83 rfl rfl rfl (by decide) dX7_passHour_7 rfl ?_
        refine V_icmp_ge 31 13 rfl dX7_passHour_10 rfl (fun c10 => ?_) (fun c10 => absurd (Int32.le_refl _) c10)
        refine V_iconst 32 (0) rfl dX7_passHour_31 rfl ?_
        refine V_istore_n 33 [(2, .int 0), (0, rf G 3), (1, rf G 18)] (by decide) rfl rfl dX7_passHour_32 rfl ?_
        exact V_lv [0, 1, 2] rfl (L2 0 (Nat.zero_le _) I1 hC1 hS1 hD1 hF1)
      · refine V_iload_n 3 0 rfl rfl dX7_passHour_2 rfl ?_
        refine V_aload_n 4 1 rfl _ rfl rfl dX7_passHour_3 rfl ?_
        refine V_getR 7 3 7 0 51 hR3c flX7_12 rfl rfl rfl (by decide) dX7_passHour_4 rfl ?_
        refine V_getI 10 51 2 8 (nI (cM K)) hC1.2.2.1 flX7_83 rfl rfl rfl (by decide) dX7_passHour_7 rfl ?_
        refine V_icmp_ge 31 13 rfl dX7_passHour_10 rfl (fun c10 => absurd c10 (nI_ge hi (by omega))) (fun c10 => ?_)
        refine V_aload_n 14 1 rfl _ rfl rfl dX7_passHour_13 rfl ?_
        refine V_getR 17 3 7 3 17 hR33 flX7_29 rfl rfl rfl (by decide) dX7_passHour_14 rfl ?_
        refine V_iload_n 18 0 rfl rfl dX7_passHour_17 rfl ?_
        refine V_aload_n 19 1 rfl _ rfl rfl dX7_passHour_18 rfl ?_
        refine V_aload_n 20 2 rfl _ rfl rfl dX7_passHour_19 rfl ?_
        refine V_iload_n 21 0 rfl rfl dX7_passHour_20 rfl ?_
        refine V_callV (K' := 0) (S' := 0) 24 3 7 2 [rf G 18, .int (nI i)] mkX7_seaOf lkX7_86 (by decide) rfl rfl (by decide) rfl (Nat.le_of_ble_eq_true rfl) (Nat.le_of_ble_eq_true rfl) (Nat.le_of_ble_eq_true rfl) (Nat.le_of_ble_eq_true rfl) rfl rfl dX7_passHour_21 rfl (c_X7_seaOf hRK hR3c hR3l hR32 hR33 hc0 ho0 hl0 hC1 hW hD1 hWD hL1 hi (fun I2 hI2 => ?_))
        refine Kq_i (k' := 0) (sl' := 0) rfl rfl ?_
        refine V_iastN 25 17 6 i (by omega) (by decide) rfl (by decide) dX7_passHour_24 rfl ?_
        refine V_iinc 28 0 rfl (nI (i + 1)) [(2, .int (nI (i + 1))), (0, rf G 3), (1, rf G 18)] (nI_1 _) (by decide) rfl dX7_passHour_25 rfl ?_
        refine V_goto 2 rfl dX7_passHour_28 ?_
        refine V_lv [0, 1, 2] rfl (ih (up2 I2 17 i (seaD K f D i)) (hC1.fr (fun a h1 h2 => by rw [up2_n _ _ _ (by omega)]; exact hI2 a (by omega) (by omega))) (hL1.fr (fun a h1 h2 => by rw [up2_n _ _ _ (by omega)]; exact hI2 a (by omega) (by omega))) (fun j hj => ?_) (hD1.fr (fun a h1 h2 => by rw [up2_n _ _ _ (by omega)]; exact hI2 a (by omega) (by omega))) (hF1.tr (fun a h1 h2 h3 h4 => by rw [up2_n _ _ _ h2]; exact hI2 a h1 h3)))
        rw [up2_s]; by_cases e : j = i
        · subst e; exact upd_s
        · rw [upd_n e, hI2 17 (by decide) (by decide)]; exact hS1 j (by omega)
    show V _ _ _ _ _ _ _ _ [(0, rf G 3), (1, rf G 18)] [] _ _ _ _ _
    refine V_iconst 1 (0) rfl dX7_passHour_0 rfl ?_
    refine V_istore_n 2 [(2, .int 0), (0, rf G 3), (1, rf G 18)] (by decide) rfl rfl dX7_passHour_1 rfl ?_
    exact V_lv [0, 1, 2] rfl (L1 0 (Nat.zero_le _) I hC hL (fun j hj => absurd hj (Nat.not_lt_zero j)) hD FrP.rf)
  · have L3 : ∀ i, i ≤ cM K → ∀ I1, CoastC I1 51 K → (∀ j, j < cM K → I1 17 j = seaD K f D j) → DayC I1 26 (tk3 (seaD K f D) (hs2 K (seaD K f D) D (cM K)) i) → FrP I I1 26 11 → V G mX7_passHour (d + 1 + 1 + 1) 0 0 0 0 100 [(2, .int (nI i)), (0, rf G 3), (1, rf G 26)] [] 103 I1 R J Q := by
      refine loopd (cM K) (fun I1 hC1 hS1 hD1 hF1 => ?_) (fun i hi ih I1 hC1 hS1 hD1 hF1 => ?_)
      · refine V_iload_n 101 0 rfl rfl dX7_passHour_100 rfl ?_
        refine V_aload_n 102 1 rfl _ rfl rfl dX7_passHour_101 rfl ?_
        refine V_getR 105 3 7 0 51 hR3c flX7_12 rfl rfl rfl (by decide) dX7_passHour_102 rfl ?_
        refine V_getI 108 51 2 8 (nI (cM K)) hC1.2.2.1 flX7_83 rfl rfl rfl (by decide) dX7_passHour_105 rfl ?_
        refine V_icmp_ge 128 111 rfl dX7_passHour_108 rfl (fun c108 => ?_) (fun c108 => absurd (Int32.le_refl _) c108)
        refine V_aload_n 129 2 rfl _ rfl rfl dX7_passHour_128 rfl ?_
        refine V_dup 130 rfl dX7_passHour_129 rfl ?_
        refine V_getI 133 26 3 7 (tk3 (seaD K f D) (hs2 K (seaD K f D) D (cM K)) (cM K) 50) hD1.2.2.2.2.2.2.2.1 flX7_79 rfl rfl rfl (by decide) dX7_passHour_130 rfl ?_
        refine V_iconst 134 (1) rfl dX7_passHour_133 rfl ?_
        refine V_iadd 135 dX7_passHour_134 rfl ?_
        refine V_putI 138 26 3 7 flX7_79 rfl rfl rfl (by decide) rfl dX7_passHour_135 rfl ?_
        refine V_ret_v rfl (Nat.le_refl _) (fun h => absurd h (by decide)) (Nat.le_refl _) (hq _ (DayC_hr hD1) (hF1.tr (FrP.ofC (FrC.rf.up (by decide) (by decide))))) dX7_passHour_138
      · refine V_iload_n 101 0 rfl rfl dX7_passHour_100 rfl ?_
        refine V_aload_n 102 1 rfl _ rfl rfl dX7_passHour_101 rfl ?_
        refine V_getR 105 3 7 0 51 hR3c flX7_12 rfl rfl rfl (by decide) dX7_passHour_102 rfl ?_
        refine V_getI 108 51 2 8 (nI (cM K)) hC1.2.2.1 flX7_83 rfl rfl rfl (by decide) dX7_passHour_105 rfl ?_
        refine V_icmp_ge 128 111 rfl dX7_passHour_108 rfl (fun c108 => absurd c108 (nI_ge hi (by omega))) (fun c108 => ?_)
        refine V_aload_n 112 2 rfl _ rfl rfl dX7_passHour_111 rfl ?_
        refine V_iload_n 113 0 rfl rfl dX7_passHour_112 rfl ?_
        refine V_aload_n 114 1 rfl _ rfl rfl dX7_passHour_113 rfl ?_
        refine V_getR 117 3 7 3 17 hR33 flX7_29 rfl rfl rfl (by decide) dX7_passHour_114 rfl ?_
        refine V_iload_n 118 0 rfl rfl dX7_passHour_117 rfl ?_
        refine V_ialdN 119 17 6 i (seaD K f D i) (hS1 i hi) (by omega) (by decide) rfl (by decide) dX7_passHour_118 rfl ?_
        refine V_callV (K' := 0) (S' := 0) 122 26 3 2 [.int (nI i), .int (seaD K f D i)] mkX3_take lkX7_97 (by decide) rfl rfl (by decide) rfl (Nat.le_of_ble_eq_true rfl) (Nat.le_of_ble_eq_true rfl) (Nat.le_of_ble_eq_true rfl) (Nat.le_of_ble_eq_true rfl) rfl rfl dX7_passHour_119 rfl (c_X3_take_26 hRK hD1 (by omega) (((hWD.hs2 hW (cM K) (Nat.le_refl _)).tk3 (S := seaD K f D) hW i (by omega)).at6 hW (by omega)) (fun I2 hD2 hF2 => ?_))
        refine Kq_v (k' := 0) (sl' := 0) rfl rfl ?_
        refine V_iinc 125 0 rfl (nI (i + 1)) [(2, .int (nI (i + 1))), (0, rf G 3), (1, rf G 26)] (nI_1 _) (by decide) rfl dX7_passHour_122 rfl ?_
        refine V_goto 100 rfl dX7_passHour_125 ?_
        exact V_lv [0, 1, 2] rfl (ih I2 (hC1.fr (fun a h1 h2 => hF2 a (by omega))) (fun j hj => by rw [hF2 17 (by decide)]; exact hS1 j hj) hD2 (hF1.tr (FrP.ofC hF2)))
    have L2 : ∀ i, i ≤ cM K → ∀ I1, CoastC I1 51 K → (∀ j, j < cM K → I1 17 j = seaD K f D j) → DayC I1 26 (hs2 K (seaD K f D) D i) → FrP I I1 26 11 → V G mX7_passHour (d + 1 + 1 + 1) 0 0 0 0 33 [(2, .int (nI i)), (0, rf G 3), (1, rf G 26)] [] 103 I1 R J Q := by
      refine loopd (cM K) (fun I1 hC1 hS1 hD1 hF1 => ?_) (fun i hi ih I1 hC1 hS1 hD1 hF1 => ?_)
      · refine V_iload_n 34 0 rfl rfl dX7_passHour_33 rfl ?_
        refine V_aload_n 35 1 rfl _ rfl rfl dX7_passHour_34 rfl ?_
        refine V_getR 38 3 7 0 51 hR3c flX7_12 rfl rfl rfl (by decide) dX7_passHour_35 rfl ?_
        refine V_getI 41 51 2 8 (nI (cM K)) hC1.2.2.1 flX7_83 rfl rfl rfl (by decide) dX7_passHour_38 rfl ?_
        refine V_icmp_ge 98 44 rfl dX7_passHour_41 rfl (fun c41 => ?_) (fun c41 => absurd (Int32.le_refl _) c41)
        refine V_iconst 99 (0) rfl dX7_passHour_98 rfl ?_
        refine V_istore_n 100 [(2, .int 0), (0, rf G 3), (1, rf G 26)] (by decide) rfl rfl dX7_passHour_99 rfl ?_
        exact V_lv [0, 1, 2] rfl (L3 0 (Nat.zero_le _) I1 hC1 hS1 hD1 hF1)
      · have hw1 := hWD.hs2 (S := seaD K f D) hW i (by omega)
        obtain ⟨E, hE⟩ : ∃ E, E = upd (hs2 K (seaD K f D) D i) (18 + i) (hs2 K (seaD K f D) D i (18 + i) + seaD K f D i) := ⟨_, rfl⟩
        have hEd : DayC (up2 I1 27 i (hs2 K (seaD K f D) D i (18 + i) + seaD K f D i)) 26 E := by rw [hE]; exact DayC_u1 hD1 (by omega)
        have hEF : Flg E := by rw [hE]; exact (hw1.u (by omega) (by omega)).1
        have hEC : CoastC (up2 I1 27 i (hs2 K (seaD K f D) D i (18 + i) + seaD K f D i)) 51 K := hC1.fr (fun a h1 h2 => up2_n _ _ _ (by omega))
        have hEP : FrP I (up2 I1 27 i (hs2 K (seaD K f D) D i (18 + i) + seaD K f D i)) 26 11 := hF1.tr (FrP.ofC (FrC.rf.up (by decide) (by decide)))
        have hnx : hs2 K (seaD K f D) D (i + 1) = (if cBt K i < E (18 + i) then (if E (30 + i) = 1 then dDie E i (cHr K i) else E) else E) := by rw [hE]; rfl
        refine V_iload_n 34 0 rfl rfl dX7_passHour_33 rfl ?_
        refine V_aload_n 35 1 rfl _ rfl rfl dX7_passHour_34 rfl ?_
        refine V_getR 38 3 7 0 51 hR3c flX7_12 rfl rfl rfl (by decide) dX7_passHour_35 rfl ?_
        refine V_getI 41 51 2 8 (nI (cM K)) hC1.2.2.1 flX7_83 rfl rfl rfl (by decide) dX7_passHour_38 rfl ?_
        refine V_icmp_ge 98 44 rfl dX7_passHour_41 rfl (fun c41 => absurd c41 (nI_ge hi (by omega))) (fun c41 => ?_)
        refine V_aload_n 45 2 rfl _ rfl rfl dX7_passHour_44 rfl ?_
        refine V_getR 48 26 3 0 27 (hRK 26 0 (by decide) (by decide) (by decide)) flX7_73 rfl rfl rfl (by decide) dX7_passHour_45 rfl ?_
        refine V_iload_n 49 0 rfl rfl dX7_passHour_48 rfl ?_
        refine V_dup2 50 rfl rfl dX7_passHour_49 rfl ?_
        refine V_ialdN 51 27 6 i (hs2 K (seaD K f D) D i (18 + i)) (hD1.1 i (by omega)) (by omega) (by decide) rfl (by decide) dX7_passHour_50 rfl ?_
        refine V_aload_n 52 1 rfl _ rfl rfl dX7_passHour_51 rfl ?_
        refine V_getR 55 3 7 3 17 hR33 flX7_29 rfl rfl rfl (by decide) dX7_passHour_52 rfl ?_
        refine V_iload_n 56 0 rfl rfl dX7_passHour_55 rfl ?_
        refine V_ialdN 57 17 6 i (seaD K f D i) (hS1 i hi) (by omega) (by decide) rfl (by decide) dX7_passHour_56 rfl ?_
        refine V_iadd 58 dX7_passHour_57 rfl ?_
        refine V_iastN 59 27 6 i (by omega) (by decide) rfl (by decide) dX7_passHour_58 rfl ?_
        refine V_aload_n 60 2 rfl _ rfl rfl dX7_passHour_59 rfl ?_
        refine V_getR 63 26 3 0 27 (hRK 26 0 (by decide) (by decide) (by decide)) flX7_73 rfl rfl rfl (by decide) dX7_passHour_60 rfl ?_
        refine V_iload_n 64 0 rfl rfl dX7_passHour_63 rfl ?_
        refine V_ialdN 65 27 6 i (E (18 + i)) (hEd.1 i (by omega)) (by omega) (by decide) rfl (by decide) dX7_passHour_64 rfl ?_
        refine V_aload_n 66 1 rfl _ rfl rfl dX7_passHour_65 rfl ?_
        refine V_getR 69 3 7 0 51 hR3c flX7_12 rfl rfl rfl (by decide) dX7_passHour_66 rfl ?_
        refine V_getR 72 51 2 4 56 (hRK 51 4 (by decide) (by decide) (by decide)) flX7_70 rfl rfl rfl (by decide) dX7_passHour_69 rfl ?_
        refine V_iload_n 73 0 rfl rfl dX7_passHour_72 rfl ?_
        refine V_ialdN 74 56 6 i (cBt K i) (hEC.2.2.2.2.2.2.2.1 i hi) (by omega) (by decide) rfl (by decide) dX7_passHour_73 rfl ?_
        refine V_icmp_le 92 77 rfl dX7_passHour_74 rfl (fun c74 => ?_) (fun c74 => ?_)
        · have hnx := (by first | exact hnx.trans (if_neg (Int32.not_lt.mpr c74)) | exact hnx : hs2 K (seaD K f D) D (i + 1) = E)
          refine V_iinc 95 0 rfl (nI (i + 1)) [(2, .int (nI (i + 1))), (0, rf G 3), (1, rf G 26)] (nI_1 _) (by decide) rfl dX7_passHour_92 rfl ?_
          refine V_goto 33 rfl dX7_passHour_95 ?_
          first | rw [hnx] at ih | skip
          exact V_lv [0, 1, 2] rfl (ih _ hEC (fun j hj => hS1 j hj) hEd hEP)
        · refine V_aload_n 78 2 rfl _ rfl rfl dX7_passHour_77 rfl ?_
          refine V_iload_n 79 0 rfl rfl dX7_passHour_78 rfl ?_
          refine V_aload_n 80 1 rfl _ rfl rfl dX7_passHour_79 rfl ?_
          refine V_getR 83 3 7 0 51 hR3c flX7_12 rfl rfl rfl (by decide) dX7_passHour_80 rfl ?_
          refine V_getR 86 51 2 5 57 (hRK 51 5 (by decide) (by decide) (by decide)) flX7_90 rfl rfl rfl (by decide) dX7_passHour_83 rfl ?_
          refine V_iload_n 87 0 rfl rfl dX7_passHour_86 rfl ?_
          refine V_ialdN 88 57 6 i (oI (cHr K i)) (hEC.2.2.2.2.2.2.2.2 i hi) (by omega) (by decide) rfl (by decide) dX7_passHour_87 rfl ?_
          refine V_callV (K' := 0) (S' := 0) 91 26 3 2 [.int (nI i), .int (oI (cHr K i))] mkX3_die lkX7_93 (by decide) rfl rfl (by decide) rfl (Nat.le_of_ble_eq_true rfl) (Nat.le_of_ble_eq_true rfl) (Nat.le_of_ble_eq_true rfl) (Nat.le_of_ble_eq_true rfl) rfl rfl dX7_passHour_88 rfl (c_X3_die_26 hRK (hkh i) hEd hEF (by omega) (fun e1 => ?_) (fun e1 I2 hD2 hF2 => ?_))
          · refine Kq_i (k' := 0) (sl' := 0) rfl rfl ?_
            have hnx := hnx.trans ((if_pos (Int32.not_le.mp c74)).trans (if_neg (by rw [e1]; decide)))
            refine V_pop 92 rfl dX7_passHour_91 rfl ?_
            have hnx := (by first | exact hnx.trans (if_neg (Int32.not_lt.mpr c74)) | exact hnx : hs2 K (seaD K f D) D (i + 1) = E)
            refine V_iinc 95 0 rfl (nI (i + 1)) [(2, .int (nI (i + 1))), (0, rf G 3), (1, rf G 26)] (nI_1 _) (by decide) rfl dX7_passHour_92 rfl ?_
            refine V_goto 33 rfl dX7_passHour_95 ?_
            first | rw [hnx] at ih | skip
            exact V_lv [0, 1, 2] rfl (ih _ hEC (fun j hj => hS1 j hj) hEd hEP)
          · refine Kq_i (k' := 0) (sl' := 0) rfl rfl ?_
            have hnx := hnx.trans ((if_pos (Int32.not_le.mp c74)).trans (if_pos e1))
            refine V_pop 92 rfl dX7_passHour_91 rfl ?_
            refine V_iinc 95 0 rfl (nI (i + 1)) [(2, .int (nI (i + 1))), (0, rf G 3), (1, rf G 26)] (nI_1 _) (by decide) rfl dX7_passHour_92 rfl ?_
            refine V_goto 33 rfl dX7_passHour_95 ?_
            rw [hnx] at ih
            exact V_lv [0, 1, 2] rfl (ih I2 (hEC.fr (fun a h1 h2 => hF2 a (by omega))) (fun j hj => by rw [hF2 17 (by decide)]; exact hS1 j hj) hD2 (hEP.tr (FrP.ofC hF2)))
    have L1 : ∀ i, i ≤ cM K → ∀ I1, CoastC I1 51 K → LawC I1 11 f → (∀ j, j < i → I1 17 j = seaD K f D j) → DayC I1 26 D → FrP I I1 26 11 → V G mX7_passHour (d + 1 + 1 + 1) 0 0 0 0 2 [(2, .int (nI i)), (0, rf G 3), (1, rf G 26)] [] 103 I1 R J Q := by
      refine loopd (cM K) (fun I1 hC1 hL1 hS1 hD1 hF1 => ?_) (fun i hi ih I1 hC1 hL1 hS1 hD1 hF1 => ?_)
      · refine V_iload_n 3 0 rfl rfl dX7_passHour_2 rfl ?_
        refine V_aload_n 4 1 rfl _ rfl rfl dX7_passHour_3 rfl ?_
        refine V_getR 7 3 7 0 51 hR3c flX7_12 rfl rfl rfl (by decide) dX7_passHour_4 rfl ?_
        refine V_getI 10 51 2 8 (nI (cM K)) hC1.2.2.1 flX7_83 rfl rfl rfl (by decide) dX7_passHour_7 rfl ?_
        refine V_icmp_ge 31 13 rfl dX7_passHour_10 rfl (fun c10 => ?_) (fun c10 => absurd (Int32.le_refl _) c10)
        refine V_iconst 32 (0) rfl dX7_passHour_31 rfl ?_
        refine V_istore_n 33 [(2, .int 0), (0, rf G 3), (1, rf G 26)] (by decide) rfl rfl dX7_passHour_32 rfl ?_
        exact V_lv [0, 1, 2] rfl (L2 0 (Nat.zero_le _) I1 hC1 hS1 hD1 hF1)
      · refine V_iload_n 3 0 rfl rfl dX7_passHour_2 rfl ?_
        refine V_aload_n 4 1 rfl _ rfl rfl dX7_passHour_3 rfl ?_
        refine V_getR 7 3 7 0 51 hR3c flX7_12 rfl rfl rfl (by decide) dX7_passHour_4 rfl ?_
        refine V_getI 10 51 2 8 (nI (cM K)) hC1.2.2.1 flX7_83 rfl rfl rfl (by decide) dX7_passHour_7 rfl ?_
        refine V_icmp_ge 31 13 rfl dX7_passHour_10 rfl (fun c10 => absurd c10 (nI_ge hi (by omega))) (fun c10 => ?_)
        refine V_aload_n 14 1 rfl _ rfl rfl dX7_passHour_13 rfl ?_
        refine V_getR 17 3 7 3 17 hR33 flX7_29 rfl rfl rfl (by decide) dX7_passHour_14 rfl ?_
        refine V_iload_n 18 0 rfl rfl dX7_passHour_17 rfl ?_
        refine V_aload_n 19 1 rfl _ rfl rfl dX7_passHour_18 rfl ?_
        refine V_aload_n 20 2 rfl _ rfl rfl dX7_passHour_19 rfl ?_
        refine V_iload_n 21 0 rfl rfl dX7_passHour_20 rfl ?_
        refine V_callV (K' := 0) (S' := 0) 24 3 7 2 [rf G 26, .int (nI i)] mkX7_seaOf lkX7_86 (by decide) rfl rfl (by decide) rfl (Nat.le_of_ble_eq_true rfl) (Nat.le_of_ble_eq_true rfl) (Nat.le_of_ble_eq_true rfl) (Nat.le_of_ble_eq_true rfl) rfl rfl dX7_passHour_21 rfl (c_X7_seaOf hRK hR3c hR3l hR32 hR33 hc0 ho0 hl0 hC1 hW hD1 hWD hL1 hi (fun I2 hI2 => ?_))
        refine Kq_i (k' := 0) (sl' := 0) rfl rfl ?_
        refine V_iastN 25 17 6 i (by omega) (by decide) rfl (by decide) dX7_passHour_24 rfl ?_
        refine V_iinc 28 0 rfl (nI (i + 1)) [(2, .int (nI (i + 1))), (0, rf G 3), (1, rf G 26)] (nI_1 _) (by decide) rfl dX7_passHour_25 rfl ?_
        refine V_goto 2 rfl dX7_passHour_28 ?_
        refine V_lv [0, 1, 2] rfl (ih (up2 I2 17 i (seaD K f D i)) (hC1.fr (fun a h1 h2 => by rw [up2_n _ _ _ (by omega)]; exact hI2 a (by omega) (by omega))) (hL1.fr (fun a h1 h2 => by rw [up2_n _ _ _ (by omega)]; exact hI2 a (by omega) (by omega))) (fun j hj => ?_) (hD1.fr (fun a h1 h2 => by rw [up2_n _ _ _ (by omega)]; exact hI2 a (by omega) (by omega))) (hF1.tr (fun a h1 h2 h3 h4 => by rw [up2_n _ _ _ h2]; exact hI2 a h1 h3)))
        rw [up2_s]; by_cases e : j = i
        · subst e; exact upd_s
        · rw [upd_n e, hI2 17 (by decide) (by decide)]; exact hS1 j (by omega)
    show V _ _ _ _ _ _ _ _ [(0, rf G 3), (1, rf G 26)] [] _ _ _ _ _
    refine V_iconst 1 (0) rfl dX7_passHour_0 rfl ?_
    refine V_istore_n 2 [(2, .int 0), (0, rf G 3), (1, rf G 26)] (by decide) rfl rfl dX7_passHour_1 rfl ?_
    exact V_lv [0, 1, 2] rfl (L1 0 (Nat.zero_le _) I hC hL (fun j hj => absurd hj (Nat.not_lt_zero j)) hD FrP.rf)
  · have L3 : ∀ i, i ≤ cM K → ∀ I1, CoastC I1 51 K → (∀ j, j < cM K → I1 17 j = seaD K f D j) → DayC I1 26 (tk3 (seaD K f D) (hs2 K (seaD K f D) D (cM K)) i) → FrP I I1 26 58 → V G mX7_passHour (d + 1 + 1 + 1) 0 0 0 0 100 [(2, .int (nI i)), (0, rf G 3), (1, rf G 26)] [] 103 I1 R J Q := by
      refine loopd (cM K) (fun I1 hC1 hS1 hD1 hF1 => ?_) (fun i hi ih I1 hC1 hS1 hD1 hF1 => ?_)
      · refine V_iload_n 101 0 rfl rfl dX7_passHour_100 rfl ?_
        refine V_aload_n 102 1 rfl _ rfl rfl dX7_passHour_101 rfl ?_
        refine V_getR 105 3 7 0 51 hR3c flX7_12 rfl rfl rfl (by decide) dX7_passHour_102 rfl ?_
        refine V_getI 108 51 2 8 (nI (cM K)) hC1.2.2.1 flX7_83 rfl rfl rfl (by decide) dX7_passHour_105 rfl ?_
        refine V_icmp_ge 128 111 rfl dX7_passHour_108 rfl (fun c108 => ?_) (fun c108 => absurd (Int32.le_refl _) c108)
        refine V_aload_n 129 2 rfl _ rfl rfl dX7_passHour_128 rfl ?_
        refine V_dup 130 rfl dX7_passHour_129 rfl ?_
        refine V_getI 133 26 3 7 (tk3 (seaD K f D) (hs2 K (seaD K f D) D (cM K)) (cM K) 50) hD1.2.2.2.2.2.2.2.1 flX7_79 rfl rfl rfl (by decide) dX7_passHour_130 rfl ?_
        refine V_iconst 134 (1) rfl dX7_passHour_133 rfl ?_
        refine V_iadd 135 dX7_passHour_134 rfl ?_
        refine V_putI 138 26 3 7 flX7_79 rfl rfl rfl (by decide) rfl dX7_passHour_135 rfl ?_
        refine V_ret_v rfl (Nat.le_refl _) (fun h => absurd h (by decide)) (Nat.le_refl _) (hq _ (DayC_hr hD1) (hF1.tr (FrP.ofC (FrC.rf.up (by decide) (by decide))))) dX7_passHour_138
      · refine V_iload_n 101 0 rfl rfl dX7_passHour_100 rfl ?_
        refine V_aload_n 102 1 rfl _ rfl rfl dX7_passHour_101 rfl ?_
        refine V_getR 105 3 7 0 51 hR3c flX7_12 rfl rfl rfl (by decide) dX7_passHour_102 rfl ?_
        refine V_getI 108 51 2 8 (nI (cM K)) hC1.2.2.1 flX7_83 rfl rfl rfl (by decide) dX7_passHour_105 rfl ?_
        refine V_icmp_ge 128 111 rfl dX7_passHour_108 rfl (fun c108 => absurd c108 (nI_ge hi (by omega))) (fun c108 => ?_)
        refine V_aload_n 112 2 rfl _ rfl rfl dX7_passHour_111 rfl ?_
        refine V_iload_n 113 0 rfl rfl dX7_passHour_112 rfl ?_
        refine V_aload_n 114 1 rfl _ rfl rfl dX7_passHour_113 rfl ?_
        refine V_getR 117 3 7 3 17 hR33 flX7_29 rfl rfl rfl (by decide) dX7_passHour_114 rfl ?_
        refine V_iload_n 118 0 rfl rfl dX7_passHour_117 rfl ?_
        refine V_ialdN 119 17 6 i (seaD K f D i) (hS1 i hi) (by omega) (by decide) rfl (by decide) dX7_passHour_118 rfl ?_
        refine V_callV (K' := 0) (S' := 0) 122 26 3 2 [.int (nI i), .int (seaD K f D i)] mkX3_take lkX7_97 (by decide) rfl rfl (by decide) rfl (Nat.le_of_ble_eq_true rfl) (Nat.le_of_ble_eq_true rfl) (Nat.le_of_ble_eq_true rfl) (Nat.le_of_ble_eq_true rfl) rfl rfl dX7_passHour_119 rfl (c_X3_take_26 hRK hD1 (by omega) (((hWD.hs2 hW (cM K) (Nat.le_refl _)).tk3 (S := seaD K f D) hW i (by omega)).at6 hW (by omega)) (fun I2 hD2 hF2 => ?_))
        refine Kq_v (k' := 0) (sl' := 0) rfl rfl ?_
        refine V_iinc 125 0 rfl (nI (i + 1)) [(2, .int (nI (i + 1))), (0, rf G 3), (1, rf G 26)] (nI_1 _) (by decide) rfl dX7_passHour_122 rfl ?_
        refine V_goto 100 rfl dX7_passHour_125 ?_
        exact V_lv [0, 1, 2] rfl (ih I2 (hC1.fr (fun a h1 h2 => hF2 a (by omega))) (fun j hj => by rw [hF2 17 (by decide)]; exact hS1 j hj) hD2 (hF1.tr (FrP.ofC hF2)))
    have L2 : ∀ i, i ≤ cM K → ∀ I1, CoastC I1 51 K → (∀ j, j < cM K → I1 17 j = seaD K f D j) → DayC I1 26 (hs2 K (seaD K f D) D i) → FrP I I1 26 58 → V G mX7_passHour (d + 1 + 1 + 1) 0 0 0 0 33 [(2, .int (nI i)), (0, rf G 3), (1, rf G 26)] [] 103 I1 R J Q := by
      refine loopd (cM K) (fun I1 hC1 hS1 hD1 hF1 => ?_) (fun i hi ih I1 hC1 hS1 hD1 hF1 => ?_)
      · refine V_iload_n 34 0 rfl rfl dX7_passHour_33 rfl ?_
        refine V_aload_n 35 1 rfl _ rfl rfl dX7_passHour_34 rfl ?_
        refine V_getR 38 3 7 0 51 hR3c flX7_12 rfl rfl rfl (by decide) dX7_passHour_35 rfl ?_
        refine V_getI 41 51 2 8 (nI (cM K)) hC1.2.2.1 flX7_83 rfl rfl rfl (by decide) dX7_passHour_38 rfl ?_
        refine V_icmp_ge 98 44 rfl dX7_passHour_41 rfl (fun c41 => ?_) (fun c41 => absurd (Int32.le_refl _) c41)
        refine V_iconst 99 (0) rfl dX7_passHour_98 rfl ?_
        refine V_istore_n 100 [(2, .int 0), (0, rf G 3), (1, rf G 26)] (by decide) rfl rfl dX7_passHour_99 rfl ?_
        exact V_lv [0, 1, 2] rfl (L3 0 (Nat.zero_le _) I1 hC1 hS1 hD1 hF1)
      · have hw1 := hWD.hs2 (S := seaD K f D) hW i (by omega)
        obtain ⟨E, hE⟩ : ∃ E, E = upd (hs2 K (seaD K f D) D i) (18 + i) (hs2 K (seaD K f D) D i (18 + i) + seaD K f D i) := ⟨_, rfl⟩
        have hEd : DayC (up2 I1 27 i (hs2 K (seaD K f D) D i (18 + i) + seaD K f D i)) 26 E := by rw [hE]; exact DayC_u1 hD1 (by omega)
        have hEF : Flg E := by rw [hE]; exact (hw1.u (by omega) (by omega)).1
        have hEC : CoastC (up2 I1 27 i (hs2 K (seaD K f D) D i (18 + i) + seaD K f D i)) 51 K := hC1.fr (fun a h1 h2 => up2_n _ _ _ (by omega))
        have hEP : FrP I (up2 I1 27 i (hs2 K (seaD K f D) D i (18 + i) + seaD K f D i)) 26 58 := hF1.tr (FrP.ofC (FrC.rf.up (by decide) (by decide)))
        have hnx : hs2 K (seaD K f D) D (i + 1) = (if cBt K i < E (18 + i) then (if E (30 + i) = 1 then dDie E i (cHr K i) else E) else E) := by rw [hE]; rfl
        refine V_iload_n 34 0 rfl rfl dX7_passHour_33 rfl ?_
        refine V_aload_n 35 1 rfl _ rfl rfl dX7_passHour_34 rfl ?_
        refine V_getR 38 3 7 0 51 hR3c flX7_12 rfl rfl rfl (by decide) dX7_passHour_35 rfl ?_
        refine V_getI 41 51 2 8 (nI (cM K)) hC1.2.2.1 flX7_83 rfl rfl rfl (by decide) dX7_passHour_38 rfl ?_
        refine V_icmp_ge 98 44 rfl dX7_passHour_41 rfl (fun c41 => absurd c41 (nI_ge hi (by omega))) (fun c41 => ?_)
        refine V_aload_n 45 2 rfl _ rfl rfl dX7_passHour_44 rfl ?_
        refine V_getR 48 26 3 0 27 (hRK 26 0 (by decide) (by decide) (by decide)) flX7_73 rfl rfl rfl (by decide) dX7_passHour_45 rfl ?_
        refine V_iload_n 49 0 rfl rfl dX7_passHour_48 rfl ?_
        refine V_dup2 50 rfl rfl dX7_passHour_49 rfl ?_
        refine V_ialdN 51 27 6 i (hs2 K (seaD K f D) D i (18 + i)) (hD1.1 i (by omega)) (by omega) (by decide) rfl (by decide) dX7_passHour_50 rfl ?_
        refine V_aload_n 52 1 rfl _ rfl rfl dX7_passHour_51 rfl ?_
        refine V_getR 55 3 7 3 17 hR33 flX7_29 rfl rfl rfl (by decide) dX7_passHour_52 rfl ?_
        refine V_iload_n 56 0 rfl rfl dX7_passHour_55 rfl ?_
        refine V_ialdN 57 17 6 i (seaD K f D i) (hS1 i hi) (by omega) (by decide) rfl (by decide) dX7_passHour_56 rfl ?_
        refine V_iadd 58 dX7_passHour_57 rfl ?_
        refine V_iastN 59 27 6 i (by omega) (by decide) rfl (by decide) dX7_passHour_58 rfl ?_
        refine V_aload_n 60 2 rfl _ rfl rfl dX7_passHour_59 rfl ?_
        refine V_getR 63 26 3 0 27 (hRK 26 0 (by decide) (by decide) (by decide)) flX7_73 rfl rfl rfl (by decide) dX7_passHour_60 rfl ?_
        refine V_iload_n 64 0 rfl rfl dX7_passHour_63 rfl ?_
        refine V_ialdN 65 27 6 i (E (18 + i)) (hEd.1 i (by omega)) (by omega) (by decide) rfl (by decide) dX7_passHour_64 rfl ?_
        refine V_aload_n 66 1 rfl _ rfl rfl dX7_passHour_65 rfl ?_
        refine V_getR 69 3 7 0 51 hR3c flX7_12 rfl rfl rfl (by decide) dX7_passHour_66 rfl ?_
        refine V_getR 72 51 2 4 56 (hRK 51 4 (by decide) (by decide) (by decide)) flX7_70 rfl rfl rfl (by decide) dX7_passHour_69 rfl ?_
        refine V_iload_n 73 0 rfl rfl dX7_passHour_72 rfl ?_
        refine V_ialdN 74 56 6 i (cBt K i) (hEC.2.2.2.2.2.2.2.1 i hi) (by omega) (by decide) rfl (by decide) dX7_passHour_73 rfl ?_
        refine V_icmp_le 92 77 rfl dX7_passHour_74 rfl (fun c74 => ?_) (fun c74 => ?_)
        · have hnx := (by first | exact hnx.trans (if_neg (Int32.not_lt.mpr c74)) | exact hnx : hs2 K (seaD K f D) D (i + 1) = E)
          refine V_iinc 95 0 rfl (nI (i + 1)) [(2, .int (nI (i + 1))), (0, rf G 3), (1, rf G 26)] (nI_1 _) (by decide) rfl dX7_passHour_92 rfl ?_
          refine V_goto 33 rfl dX7_passHour_95 ?_
          first | rw [hnx] at ih | skip
          exact V_lv [0, 1, 2] rfl (ih _ hEC (fun j hj => hS1 j hj) hEd hEP)
        · refine V_aload_n 78 2 rfl _ rfl rfl dX7_passHour_77 rfl ?_
          refine V_iload_n 79 0 rfl rfl dX7_passHour_78 rfl ?_
          refine V_aload_n 80 1 rfl _ rfl rfl dX7_passHour_79 rfl ?_
          refine V_getR 83 3 7 0 51 hR3c flX7_12 rfl rfl rfl (by decide) dX7_passHour_80 rfl ?_
          refine V_getR 86 51 2 5 57 (hRK 51 5 (by decide) (by decide) (by decide)) flX7_90 rfl rfl rfl (by decide) dX7_passHour_83 rfl ?_
          refine V_iload_n 87 0 rfl rfl dX7_passHour_86 rfl ?_
          refine V_ialdN 88 57 6 i (oI (cHr K i)) (hEC.2.2.2.2.2.2.2.2 i hi) (by omega) (by decide) rfl (by decide) dX7_passHour_87 rfl ?_
          refine V_callV (K' := 0) (S' := 0) 91 26 3 2 [.int (nI i), .int (oI (cHr K i))] mkX3_die lkX7_93 (by decide) rfl rfl (by decide) rfl (Nat.le_of_ble_eq_true rfl) (Nat.le_of_ble_eq_true rfl) (Nat.le_of_ble_eq_true rfl) (Nat.le_of_ble_eq_true rfl) rfl rfl dX7_passHour_88 rfl (c_X3_die_26 hRK (hkh i) hEd hEF (by omega) (fun e1 => ?_) (fun e1 I2 hD2 hF2 => ?_))
          · refine Kq_i (k' := 0) (sl' := 0) rfl rfl ?_
            have hnx := hnx.trans ((if_pos (Int32.not_le.mp c74)).trans (if_neg (by rw [e1]; decide)))
            refine V_pop 92 rfl dX7_passHour_91 rfl ?_
            have hnx := (by first | exact hnx.trans (if_neg (Int32.not_lt.mpr c74)) | exact hnx : hs2 K (seaD K f D) D (i + 1) = E)
            refine V_iinc 95 0 rfl (nI (i + 1)) [(2, .int (nI (i + 1))), (0, rf G 3), (1, rf G 26)] (nI_1 _) (by decide) rfl dX7_passHour_92 rfl ?_
            refine V_goto 33 rfl dX7_passHour_95 ?_
            first | rw [hnx] at ih | skip
            exact V_lv [0, 1, 2] rfl (ih _ hEC (fun j hj => hS1 j hj) hEd hEP)
          · refine Kq_i (k' := 0) (sl' := 0) rfl rfl ?_
            have hnx := hnx.trans ((if_pos (Int32.not_le.mp c74)).trans (if_pos e1))
            refine V_pop 92 rfl dX7_passHour_91 rfl ?_
            refine V_iinc 95 0 rfl (nI (i + 1)) [(2, .int (nI (i + 1))), (0, rf G 3), (1, rf G 26)] (nI_1 _) (by decide) rfl dX7_passHour_92 rfl ?_
            refine V_goto 33 rfl dX7_passHour_95 ?_
            rw [hnx] at ih
            exact V_lv [0, 1, 2] rfl (ih I2 (hEC.fr (fun a h1 h2 => hF2 a (by omega))) (fun j hj => by rw [hF2 17 (by decide)]; exact hS1 j hj) hD2 (hEP.tr (FrP.ofC hF2)))
    have L1 : ∀ i, i ≤ cM K → ∀ I1, CoastC I1 51 K → LawC I1 58 f → (∀ j, j < i → I1 17 j = seaD K f D j) → DayC I1 26 D → FrP I I1 26 58 → V G mX7_passHour (d + 1 + 1 + 1) 0 0 0 0 2 [(2, .int (nI i)), (0, rf G 3), (1, rf G 26)] [] 103 I1 R J Q := by
      refine loopd (cM K) (fun I1 hC1 hL1 hS1 hD1 hF1 => ?_) (fun i hi ih I1 hC1 hL1 hS1 hD1 hF1 => ?_)
      · refine V_iload_n 3 0 rfl rfl dX7_passHour_2 rfl ?_
        refine V_aload_n 4 1 rfl _ rfl rfl dX7_passHour_3 rfl ?_
        refine V_getR 7 3 7 0 51 hR3c flX7_12 rfl rfl rfl (by decide) dX7_passHour_4 rfl ?_
        refine V_getI 10 51 2 8 (nI (cM K)) hC1.2.2.1 flX7_83 rfl rfl rfl (by decide) dX7_passHour_7 rfl ?_
        refine V_icmp_ge 31 13 rfl dX7_passHour_10 rfl (fun c10 => ?_) (fun c10 => absurd (Int32.le_refl _) c10)
        refine V_iconst 32 (0) rfl dX7_passHour_31 rfl ?_
        refine V_istore_n 33 [(2, .int 0), (0, rf G 3), (1, rf G 26)] (by decide) rfl rfl dX7_passHour_32 rfl ?_
        exact V_lv [0, 1, 2] rfl (L2 0 (Nat.zero_le _) I1 hC1 hS1 hD1 hF1)
      · refine V_iload_n 3 0 rfl rfl dX7_passHour_2 rfl ?_
        refine V_aload_n 4 1 rfl _ rfl rfl dX7_passHour_3 rfl ?_
        refine V_getR 7 3 7 0 51 hR3c flX7_12 rfl rfl rfl (by decide) dX7_passHour_4 rfl ?_
        refine V_getI 10 51 2 8 (nI (cM K)) hC1.2.2.1 flX7_83 rfl rfl rfl (by decide) dX7_passHour_7 rfl ?_
        refine V_icmp_ge 31 13 rfl dX7_passHour_10 rfl (fun c10 => absurd c10 (nI_ge hi (by omega))) (fun c10 => ?_)
        refine V_aload_n 14 1 rfl _ rfl rfl dX7_passHour_13 rfl ?_
        refine V_getR 17 3 7 3 17 hR33 flX7_29 rfl rfl rfl (by decide) dX7_passHour_14 rfl ?_
        refine V_iload_n 18 0 rfl rfl dX7_passHour_17 rfl ?_
        refine V_aload_n 19 1 rfl _ rfl rfl dX7_passHour_18 rfl ?_
        refine V_aload_n 20 2 rfl _ rfl rfl dX7_passHour_19 rfl ?_
        refine V_iload_n 21 0 rfl rfl dX7_passHour_20 rfl ?_
        refine V_callV (K' := 0) (S' := 0) 24 3 7 2 [rf G 26, .int (nI i)] mkX7_seaOf lkX7_86 (by decide) rfl rfl (by decide) rfl (Nat.le_of_ble_eq_true rfl) (Nat.le_of_ble_eq_true rfl) (Nat.le_of_ble_eq_true rfl) (Nat.le_of_ble_eq_true rfl) rfl rfl dX7_passHour_21 rfl (c_X7_seaOf hRK hR3c hR3l hR32 hR33 hc0 ho0 hl0 hC1 hW hD1 hWD hL1 hi (fun I2 hI2 => ?_))
        refine Kq_i (k' := 0) (sl' := 0) rfl rfl ?_
        refine V_iastN 25 17 6 i (by omega) (by decide) rfl (by decide) dX7_passHour_24 rfl ?_
        refine V_iinc 28 0 rfl (nI (i + 1)) [(2, .int (nI (i + 1))), (0, rf G 3), (1, rf G 26)] (nI_1 _) (by decide) rfl dX7_passHour_25 rfl ?_
        refine V_goto 2 rfl dX7_passHour_28 ?_
        refine V_lv [0, 1, 2] rfl (ih (up2 I2 17 i (seaD K f D i)) (hC1.fr (fun a h1 h2 => by rw [up2_n _ _ _ (by omega)]; exact hI2 a (by omega) (by omega))) (hL1.fr (fun a h1 h2 => by rw [up2_n _ _ _ (by omega)]; exact hI2 a (by omega) (by omega))) (fun j hj => ?_) (hD1.fr (fun a h1 h2 => by rw [up2_n _ _ _ (by omega)]; exact hI2 a (by omega) (by omega))) (hF1.tr (fun a h1 h2 h3 h4 => by rw [up2_n _ _ _ h2]; exact hI2 a h1 h3)))
        rw [up2_s]; by_cases e : j = i
        · subst e; exact upd_s
        · rw [upd_n e, hI2 17 (by decide) (by decide)]; exact hS1 j (by omega)
    show V _ _ _ _ _ _ _ _ [(0, rf G 3), (1, rf G 26)] [] _ _ _ _ _
    refine V_iconst 1 (0) rfl dX7_passHour_0 rfl ?_
    refine V_istore_n 2 [(2, .int 0), (0, rf G 3), (1, rf G 26)] (by decide) rfl rfl dX7_passHour_1 rfl ?_
    exact V_lv [0, 1, 2] rfl (L1 0 (Nat.zero_le _) I hC hL (fun j hj => absurd hj (Nat.not_lt_zero j)) hD FrP.rf)
