/-! ===== an hour, as the reference has it ===== -/
theorem upd_comm {f : DV} {a b : Nat} {x y : Int32} (h : a ≠ b) : upd (upd f a x) b y = upd (upd f b y) a x := by
  funext k
  by_cases h1 : k = b
  · subst h1; rw [upd_s, upd_n (Ne.symm h), upd_s]
  · rw [upd_n h1]
    by_cases h2 : k = a
    · subst h2; rw [upd_s, upd_s]
    · rw [upd_n h2, upd_n h2, upd_n h1]
def huF (S D : DV) : Nat → DV
  | 0 => D
  | m + 1 => upd (huF S D m) (18 + m) (huF S D m (18 + m) + S m)
def dtF (K : CO) (D : DV) : Nat → DV
  | 0 => D
  | m + 1 => if dtF K D m (30 + m) = 1 ∧ ¬ dtF K D m (6 + m) = -1 ∧ cBt K m < dtF K D m (18 + m) then dDie (dtF K D m) m (cHr K m) else dtF K D m
def passM (K : CO) (f : DV → Int32) (D : DV) : DV := upd (tk3 (seaD K f D) (dtF K (huF (seaD K f D) D (cM K)) (cM K)) (cM K)) 50 (tk3 (seaD K f D) (dtF K (huF (seaD K f D) D (cM K)) (cM K)) (cM K) 50 + 1)
theorem WD.hu {K : CO} {S D : DV} (h : WD K D) : ∀ m, m ≤ 6 → WD K (huF S D m) := by
  intro m
  induction m with
  | zero => intro _; exact h
  | succ m ih => intro hm; exact (ih (by omega)).u (by omega) (by omega)
theorem WD.dt {K : CO} {D : DV} (h : WD K D) (hW : WK K) : ∀ m, m ≤ cM K → WD K (dtF K D m) := by
  intro m
  have h3 := hW.2.2.1
  induction m with
  | zero => intro _; exact h
  | succ m ih =>
    intro hm
    rw [dtF]; split
    · exact (ih (by omega)).die (by omega) (fun j e => by have := hW.2.2.2.1 m j e; omega)
    · exact ih (by omega)
theorem StO.u {D : DV} {k : Nat} {v : Int32} (h : StO D) (hk : k < 6 ∨ 18 ≤ k) : StO (upd D k v) := fun m hm e => by
  rw [upd_n (by omega)] at e ⊢; exact h m hm e
theorem StO.hu {S D : DV} (h : StO D) : ∀ m, m ≤ 6 → StO (huF S D m) := by
  intro m
  induction m with
  | zero => intro _; exact h
  | succ m ih => intro hm; exact (ih (by omega)).u (by omega)
theorem StO.home {D : DV} {m : Nat} (h : StO D) (hm : m < 6) : StO (dHome D m) := by
  rw [dHome_eq (h m hm)]
  intro j hj e
  by_cases c : j = m
  · subst c; exact upd_s
  · rw [upd_n (by omega), upd_n (by omega)] at e ⊢; exact h j hj e
theorem StO.die {D : DV} {m : Nat} {k : Option Nat} (h : StO D) (hm : m < 6) (hk : ∀ j, k = some j → j < 6) : StO (dDie D m k) := by
  have h0 : StO (dDie0 D m) := ((h.u (Or.inr (by omega))).u (Or.inl hm)).home hm
  cases k with
  | none => exact h0
  | some j =>
    rw [dDie]; split
    · exact h0.u (Or.inl (hk j rfl))
    · exact h0
theorem StO.dt {K : CO} {D : DV} (h : StO D) (hW : WK K) : ∀ m, m ≤ cM K → StO (dtF K D m) := by
  intro m
  have h3 := hW.2.2.1
  induction m with
  | zero => intro _; exact h
  | succ m ih =>
    intro hm
    rw [dtF]; split
    · exact (ih (by omega)).die (by omega) (fun j e => by have := hW.2.2.2.1 m j e; omega)
    · exact ih (by omega)
theorem mn_l {a b : Int32} (h : a ≤ b) : (if a < b then a else b) = a := by
  by_cases c : a < b
  · rw [if_pos c]
  · rw [if_neg c]; exact Int32.le_antisymm (Int32.not_lt.mp c) h
theorem mn_r {a b : Int32} (h : b < a) : (if a < b then a else b) = b := if_neg (Int32.lt_asymm h)
set_option maxHeartbeats 8000000 in
theorem c_X11_passes {G : Gx} {d : Nat} {I : FI} {R : FR} {J : FJ} {Q : Po} (hRM : ∀ k, R 69 k = refM k) {K : CO} {D : DV} {f : DV → Int32} (hK : CoastM I K) (hW : WK K) (hM : DayM I D) (hWD : WD K D) (hB : Bey K D) (hSt : StO D) (hL : LawM I f) (hq : ∀ I', DayM I' (passM K f D) → FrS I I' → Q (.inl none) 103 I' R J) : Cc G mX11_passes (d + 1 + 1 + 1 + 1 + 1) 0 0 [rf G 69] 103 I R J Q := by
  have h6 := hW.2.2.1
  have hg66 := hW.2.1
  have hkh : ∀ m j, cHr K m = some j → j < 6 := fun m j e => by have := hW.2.2.2.1 m j e; omega
  obtain ⟨S, hS⟩ : ∃ S, S = seaD K f D := ⟨_, rfl⟩
  obtain ⟨D2, hD2⟩ : ∃ E, E = huF S D (cM K) := ⟨_, rfl⟩
  obtain ⟨D3, hD3⟩ : ∃ E, E = dtF K D2 (cM K) := ⟨_, rfl⟩
  have hq : ∀ I', DayM I' (upd (tk3 S D3 (cM K)) 50 (tk3 S D3 (cM K) 50 + 1)) → FrS I I' → Q (.inl none) 103 I' R J := by
    subst hD3; subst hD2; subst hS; exact hq
  have w2 : WD K D2 := by rw [hD2]; exact hWD.hu (cM K) h6
  have w3 : WD K D3 := by rw [hD3]; exact w2.dt hW (cM K) (Nat.le_refl _)
  have s2 : StO D2 := by rw [hD2]; exact hSt.hu (cM K) h6
  have L4 : ∀ i, i ≤ cM K → ∀ I1, CoastM I1 K → (∀ j, j < cM K → I1 91 j = S j) → DayM I1 (tk3 S D3 i) → FrS I I1 → V G mX11_passes (d + 1 + 1 + 1 + 1 + 1) 0 0 0 0 128 [(1, .int (nI i)), (0, rf G 69)] [] 103 I1 R J Q := by
    refine loopd (cM K) (fun I1 hK1 hS1 hM1 hF1 => ?_) (fun i hi ih I1 hK1 hS1 hM1 hF1 => ?_)
    · refine V_iload_n 129 0 rfl rfl dX11_passes_128 rfl ?_
      refine V_aload_n 130 1 rfl _ rfl rfl dX11_passes_129 rfl ?_
      refine V_getI 133 69 11 23 (nI (cM K)) hK1.2.2.1 flX11_181 rfl rfl rfl (by decide) dX11_passes_130 rfl ?_
      refine V_icmp_ge 239 136 rfl dX11_passes_133 rfl (fun c133 => ?_) (fun c133 => absurd (Int32.le_refl _) c133)
      refine V_aload_n 240 1 rfl _ rfl rfl dX11_passes_239 rfl ?_
      refine V_getR 243 69 11 41 89 (hRM 41) flX11_74 rfl rfl rfl (by decide) dX11_passes_240 rfl ?_
      refine V_bipush 245 (50) rfl dX11_passes_243 rfl ?_
      refine V_dup2 246 rfl rfl dX11_passes_245 rfl ?_
      refine V_ialdN 247 89 51 50 (tk3 S D3 (cM K) 50) (hM1 50 (by decide)) (by decide) (by decide) rfl (by decide) dX11_passes_246 rfl ?_
      refine V_iconst 248 (1) rfl dX11_passes_247 rfl ?_
      refine V_iadd 249 dX11_passes_248 rfl ?_
      refine V_iastN 250 89 51 50 (by decide) (by decide) rfl (by decide) dX11_passes_249 rfl ?_
      refine V_ret_v rfl (Nat.le_refl _) (fun h => absurd h (by decide)) (Nat.le_refl _) (hq _ (DayM_u hM1 (by decide)) (hF1.up (by decide))) dX11_passes_250
    · rcases (w3.tk3 (S := S) hW i (by omega)).at6 hW (show i < 6 by omega) with e1 | ⟨g, hg, e1⟩
      · refine V_iload_n 129 0 rfl rfl dX11_passes_128 rfl ?_
        refine V_aload_n 130 1 rfl _ rfl rfl dX11_passes_129 rfl ?_
        refine V_getI 133 69 11 23 (nI (cM K)) hK1.2.2.1 flX11_181 rfl rfl rfl (by decide) dX11_passes_130 rfl ?_
        refine V_icmp_ge 239 136 rfl dX11_passes_133 rfl (fun c133 => absurd c133 (nI_ge hi (by omega))) (fun c133 => ?_)
        refine V_aload_n 137 1 rfl _ rfl rfl dX11_passes_136 rfl ?_
        refine V_getR 140 69 11 41 89 (hRM 41) flX11_74 rfl rfl rfl (by decide) dX11_passes_137 rfl ?_
        refine V_bipush 142 (6) rfl dX11_passes_140 rfl ?_
        refine V_iload_n 143 0 rfl rfl dX11_passes_142 rfl ?_
        refine V_iadd 144 dX11_passes_143 rfl ?_
        refine V_rw (nI_add 6 i) ?_
        refine V_ialdN 145 89 51 (6 + i) (-1) ((hM1 (6 + i) (by omega)).trans e1) (by omega) (by decide) rfl (by decide) dX11_passes_144 rfl ?_
        refine V_istore_n 146 [(2, .int (-1)), (1, .int (nI i)), (0, rf G 69)] (by decide) rfl rfl dX11_passes_145 rfl ?_
        refine V_iload_n 147 0 rfl rfl dX11_passes_146 rfl ?_
        refine V_iconst 148 (-1) rfl dX11_passes_147 rfl ?_
        refine V_icmp_ne 154 151 rfl dX11_passes_148 rfl (fun c148 => absurd c148 (by decide)) (fun c148 => ?_)
        refine V_goto 233 rfl dX11_passes_151 ?_
        refine V_iinc 236 1 rfl (nI (i + 1)) [(1, .int (nI (i + 1))), (2, .int (-1)), (0, rf G 69)] (nI_1 _) (by decide) rfl dX11_passes_233 rfl ?_
        refine V_goto 128 rfl dX11_passes_236 ?_
        have e9 : tk3 S D3 (i + 1) = tk3 S D3 i := by rw [tk3, dTake, e1]; rfl
        rw [e9] at ih
        exact V_lv [0, 2] rfl (ih I1 hK1 hS1 hM1 hF1)
      · have e9 : tk3 S D3 (i + 1) = upd (upd (upd (tk3 S D3 i) (44 + g) (tk3 S D3 i (44 + g) - (if 9 - S i / 10 < tk3 S D3 i (44 + g) then 9 - S i / 10 else tk3 S D3 i (44 + g)))) (24 + i) (tk3 S D3 i (24 + i) + (if 9 - S i / 10 < tk3 S D3 i (44 + g) then 9 - S i / 10 else tk3 S D3 i (44 + g)))) (12 + i) (tk3 S D3 i (12 + i) + 1) := by rw [tk3, dTake, e1, nOf_n (by omega)]
        rw [e9] at ih
        refine V_iload_n 129 0 rfl rfl dX11_passes_128 rfl ?_
        refine V_aload_n 130 1 rfl _ rfl rfl dX11_passes_129 rfl ?_
        refine V_getI 133 69 11 23 (nI (cM K)) hK1.2.2.1 flX11_181 rfl rfl rfl (by decide) dX11_passes_130 rfl ?_
        refine V_icmp_ge 239 136 rfl dX11_passes_133 rfl (fun c133 => absurd c133 (nI_ge hi (by omega))) (fun c133 => ?_)
        refine V_aload_n 137 1 rfl _ rfl rfl dX11_passes_136 rfl ?_
        refine V_getR 140 69 11 41 89 (hRM 41) flX11_74 rfl rfl rfl (by decide) dX11_passes_137 rfl ?_
        refine V_bipush 142 (6) rfl dX11_passes_140 rfl ?_
        refine V_iload_n 143 0 rfl rfl dX11_passes_142 rfl ?_
        refine V_iadd 144 dX11_passes_143 rfl ?_
        refine V_rw (nI_add 6 i) ?_
        refine V_ialdN 145 89 51 (6 + i) (nI g) ((hM1 (6 + i) (by omega)).trans e1) (by omega) (by decide) rfl (by decide) dX11_passes_144 rfl ?_
        refine V_istore_n 146 [(2, .int (nI g)), (1, .int (nI i)), (0, rf G 69)] (by decide) rfl rfl dX11_passes_145 rfl ?_
        refine V_iload_n 147 0 rfl rfl dX11_passes_146 rfl ?_
        refine V_iconst 148 (-1) rfl dX11_passes_147 rfl ?_
        refine V_icmp_ne 154 151 rfl dX11_passes_148 rfl (fun c148 => ?_) (fun c148 => absurd c148 (nI_ne (by omega)))
        refine V_bipush 156 (9) rfl dX11_passes_154 rfl ?_
        refine V_aload_n 157 2 rfl _ rfl rfl dX11_passes_156 rfl ?_
        refine V_getR 160 69 11 43 91 (hRM 43) flX11_80 rfl rfl rfl (by decide) dX11_passes_157 rfl ?_
        refine V_iload_n 161 1 rfl rfl dX11_passes_160 rfl ?_
        refine V_ialdN 162 91 6 i (S i) (hS1 i hi) (by omega) (by decide) rfl (by decide) dX11_passes_161 rfl ?_
        refine V_bipush 164 (10) rfl dX11_passes_162 rfl ?_
        refine V_idiv 165 (by decide) dX11_passes_164 rfl ?_
        refine V_isub 166 dX11_passes_165 rfl ?_
        refine V_istore_n 167 [(3, .int (9 - S i / 10)), (2, .int (nI g)), (1, .int (nI i)), (0, rf G 69)] (by decide) rfl rfl dX11_passes_166 rfl ?_
        refine V_iload_n 168 0 rfl rfl dX11_passes_167 rfl ?_
        refine V_aload_n 169 3 rfl _ rfl rfl dX11_passes_168 rfl ?_
        refine V_getR 172 69 11 41 89 (hRM 41) flX11_74 rfl rfl rfl (by decide) dX11_passes_169 rfl ?_
        refine V_bipush 174 (44) rfl dX11_passes_172 rfl ?_
        refine V_iload_n 175 1 rfl rfl dX11_passes_174 rfl ?_
        refine V_iadd 176 dX11_passes_175 rfl ?_
        refine V_rw (nI_add 44 g) ?_
        refine V_ialdN 177 89 51 (44 + g) (tk3 S D3 i (44 + g)) (hM1 (44 + g) (by omega)) (by omega) (by decide) rfl (by decide) dX11_passes_176 rfl ?_
        refine V_icmp_le 192 180 rfl dX11_passes_177 rfl (fun c177 => ?_) (fun c177 => ?_)
        · refine V_iload_n 193 0 rfl rfl dX11_passes_192 rfl ?_
          refine V_rw (show _ = (if 9 - S i / 10 < tk3 S D3 i (44 + g) then 9 - S i / 10 else tk3 S D3 i (44 + g)) from (mn_l c177).symm) ?_
          refine V_istore_n 194 [(3, .int (if 9 - S i / 10 < tk3 S D3 i (44 + g) then 9 - S i / 10 else tk3 S D3 i (44 + g))), (2, .int (nI g)), (1, .int (nI i)), (0, rf G 69)] (by decide) rfl rfl dX11_passes_193 rfl ?_
          refine V_aload_n 195 3 rfl _ rfl rfl dX11_passes_194 rfl ?_
          refine V_getR 198 69 11 41 89 (hRM 41) flX11_74 rfl rfl rfl (by decide) dX11_passes_195 rfl ?_
          refine V_bipush 200 (44) rfl dX11_passes_198 rfl ?_
          refine V_iload_n 201 1 rfl rfl dX11_passes_200 rfl ?_
          refine V_iadd 202 dX11_passes_201 rfl ?_
          refine V_rw (nI_add 44 g) ?_
          refine V_dup2 203 rfl rfl dX11_passes_202 rfl ?_
          refine V_ialdN 204 89 51 (44 + g) (tk3 S D3 i (44 + g)) (hM1 (44 + g) (by omega)) (by omega) (by decide) rfl (by decide) dX11_passes_203 rfl ?_
          refine V_iload_n 205 0 rfl rfl dX11_passes_204 rfl ?_
          refine V_isub 206 dX11_passes_205 rfl ?_
          refine V_iastN 207 89 51 (44 + g) (by omega) (by decide) rfl (by decide) dX11_passes_206 rfl ?_
          refine V_aload_n 208 3 rfl _ rfl rfl dX11_passes_207 rfl ?_
          refine V_getR 211 69 11 41 89 (hRM 41) flX11_74 rfl rfl rfl (by decide) dX11_passes_208 rfl ?_
          refine V_bipush 213 (24) rfl dX11_passes_211 rfl ?_
          refine V_iload_n 214 2 rfl rfl dX11_passes_213 rfl ?_
          refine V_iadd 215 dX11_passes_214 rfl ?_
          refine V_rw (nI_add 24 i) ?_
          refine V_dup2 216 rfl rfl dX11_passes_215 rfl ?_
          refine V_ialdN 217 89 51 (24 + i) (tk3 S D3 i (24 + i)) (by rw [up2_s, upd_n (by omega)]; exact hM1 (24 + i) (by omega)) (by omega) (by decide) rfl (by decide) dX11_passes_216 rfl ?_
          refine V_iload_n 218 0 rfl rfl dX11_passes_217 rfl ?_
          refine V_iadd 219 dX11_passes_218 rfl ?_
          refine V_iastN 220 89 51 (24 + i) (by omega) (by decide) rfl (by decide) dX11_passes_219 rfl ?_
          refine V_aload_n 221 3 rfl _ rfl rfl dX11_passes_220 rfl ?_
          refine V_getR 224 69 11 41 89 (hRM 41) flX11_74 rfl rfl rfl (by decide) dX11_passes_221 rfl ?_
          refine V_bipush 226 (12) rfl dX11_passes_224 rfl ?_
          refine V_iload_n 227 2 rfl rfl dX11_passes_226 rfl ?_
          refine V_iadd 228 dX11_passes_227 rfl ?_
          refine V_rw (nI_add 12 i) ?_
          refine V_dup2 229 rfl rfl dX11_passes_228 rfl ?_
          refine V_ialdN 230 89 51 (12 + i) (tk3 S D3 i (12 + i)) (by rw [up2_s, upd_n (by omega), up2_s, upd_n (by omega)]; exact hM1 (12 + i) (by omega)) (by omega) (by decide) rfl (by decide) dX11_passes_229 rfl ?_
          refine V_iconst 231 (1) rfl dX11_passes_230 rfl ?_
          refine V_iadd 232 dX11_passes_231 rfl ?_
          refine V_iastN 233 89 51 (12 + i) (by omega) (by decide) rfl (by decide) dX11_passes_232 rfl ?_
          refine V_iinc 236 2 rfl (nI (i + 1)) [(1, .int (nI (i + 1))), (3, .int (if 9 - S i / 10 < tk3 S D3 i (44 + g) then 9 - S i / 10 else tk3 S D3 i (44 + g))), (2, .int (nI g)), (0, rf G 69)] (nI_1 _) (by decide) rfl dX11_passes_233 rfl ?_
          refine V_goto 128 rfl dX11_passes_236 ?_
          exact V_lv [0, 3] rfl (ih _ (hK1.frS (((FrS.rf.up (by decide)).up (by decide)).up (by decide))) (fun j hj => hS1 j hj) (DayM_u (DayM_u (DayM_u hM1 (by omega)) (by omega)) (by omega)) (hF1.tr (((FrS.rf.up (by decide)).up (by decide)).up (by decide))))
        · refine V_aload_n 181 3 rfl _ rfl rfl dX11_passes_180 rfl ?_
          refine V_getR 184 69 11 41 89 (hRM 41) flX11_74 rfl rfl rfl (by decide) dX11_passes_181 rfl ?_
          refine V_bipush 186 (44) rfl dX11_passes_184 rfl ?_
          refine V_iload_n 187 1 rfl rfl dX11_passes_186 rfl ?_
          refine V_iadd 188 dX11_passes_187 rfl ?_
          refine V_rw (nI_add 44 g) ?_
          refine V_ialdN 189 89 51 (44 + g) (tk3 S D3 i (44 + g)) (hM1 (44 + g) (by omega)) (by omega) (by decide) rfl (by decide) dX11_passes_188 rfl ?_
          refine V_goto 193 rfl dX11_passes_189 ?_
          refine V_rw (show _ = (if 9 - S i / 10 < tk3 S D3 i (44 + g) then 9 - S i / 10 else tk3 S D3 i (44 + g)) from (mn_r (Int32.not_le.mp c177)).symm) ?_
          refine V_istore_n 194 [(3, .int (if 9 - S i / 10 < tk3 S D3 i (44 + g) then 9 - S i / 10 else tk3 S D3 i (44 + g))), (2, .int (nI g)), (1, .int (nI i)), (0, rf G 69)] (by decide) rfl rfl dX11_passes_193 rfl ?_
          refine V_aload_n 195 3 rfl _ rfl rfl dX11_passes_194 rfl ?_
          refine V_getR 198 69 11 41 89 (hRM 41) flX11_74 rfl rfl rfl (by decide) dX11_passes_195 rfl ?_
          refine V_bipush 200 (44) rfl dX11_passes_198 rfl ?_
          refine V_iload_n 201 1 rfl rfl dX11_passes_200 rfl ?_
          refine V_iadd 202 dX11_passes_201 rfl ?_
          refine V_rw (nI_add 44 g) ?_
          refine V_dup2 203 rfl rfl dX11_passes_202 rfl ?_
          refine V_ialdN 204 89 51 (44 + g) (tk3 S D3 i (44 + g)) (hM1 (44 + g) (by omega)) (by omega) (by decide) rfl (by decide) dX11_passes_203 rfl ?_
          refine V_iload_n 205 0 rfl rfl dX11_passes_204 rfl ?_
          refine V_isub 206 dX11_passes_205 rfl ?_
          refine V_iastN 207 89 51 (44 + g) (by omega) (by decide) rfl (by decide) dX11_passes_206 rfl ?_
          refine V_aload_n 208 3 rfl _ rfl rfl dX11_passes_207 rfl ?_
          refine V_getR 211 69 11 41 89 (hRM 41) flX11_74 rfl rfl rfl (by decide) dX11_passes_208 rfl ?_
          refine V_bipush 213 (24) rfl dX11_passes_211 rfl ?_
          refine V_iload_n 214 2 rfl rfl dX11_passes_213 rfl ?_
          refine V_iadd 215 dX11_passes_214 rfl ?_
          refine V_rw (nI_add 24 i) ?_
          refine V_dup2 216 rfl rfl dX11_passes_215 rfl ?_
          refine V_ialdN 217 89 51 (24 + i) (tk3 S D3 i (24 + i)) (by rw [up2_s, upd_n (by omega)]; exact hM1 (24 + i) (by omega)) (by omega) (by decide) rfl (by decide) dX11_passes_216 rfl ?_
          refine V_iload_n 218 0 rfl rfl dX11_passes_217 rfl ?_
          refine V_iadd 219 dX11_passes_218 rfl ?_
          refine V_iastN 220 89 51 (24 + i) (by omega) (by decide) rfl (by decide) dX11_passes_219 rfl ?_
          refine V_aload_n 221 3 rfl _ rfl rfl dX11_passes_220 rfl ?_
          refine V_getR 224 69 11 41 89 (hRM 41) flX11_74 rfl rfl rfl (by decide) dX11_passes_221 rfl ?_
          refine V_bipush 226 (12) rfl dX11_passes_224 rfl ?_
          refine V_iload_n 227 2 rfl rfl dX11_passes_226 rfl ?_
          refine V_iadd 228 dX11_passes_227 rfl ?_
          refine V_rw (nI_add 12 i) ?_
          refine V_dup2 229 rfl rfl dX11_passes_228 rfl ?_
          refine V_ialdN 230 89 51 (12 + i) (tk3 S D3 i (12 + i)) (by rw [up2_s, upd_n (by omega), up2_s, upd_n (by omega)]; exact hM1 (12 + i) (by omega)) (by omega) (by decide) rfl (by decide) dX11_passes_229 rfl ?_
          refine V_iconst 231 (1) rfl dX11_passes_230 rfl ?_
          refine V_iadd 232 dX11_passes_231 rfl ?_
          refine V_iastN 233 89 51 (12 + i) (by omega) (by decide) rfl (by decide) dX11_passes_232 rfl ?_
          refine V_iinc 236 2 rfl (nI (i + 1)) [(1, .int (nI (i + 1))), (3, .int (if 9 - S i / 10 < tk3 S D3 i (44 + g) then 9 - S i / 10 else tk3 S D3 i (44 + g))), (2, .int (nI g)), (0, rf G 69)] (nI_1 _) (by decide) rfl dX11_passes_233 rfl ?_
          refine V_goto 128 rfl dX11_passes_236 ?_
          exact V_lv [0, 3] rfl (ih _ (hK1.frS (((FrS.rf.up (by decide)).up (by decide)).up (by decide))) (fun j hj => hS1 j hj) (DayM_u (DayM_u (DayM_u hM1 (by omega)) (by omega)) (by omega)) (hF1.tr (((FrS.rf.up (by decide)).up (by decide)).up (by decide))))
  have L3 : ∀ i, i ≤ cM K → ∀ I1, CoastM I1 K → (∀ j, j < cM K → I1 91 j = S j) → DayM I1 (dtF K D2 i) → FrS I I1 → V G mX11_passes (d + 1 + 1 + 1 + 1 + 1) 0 0 0 0 63 [(1, .int (nI i)), (0, rf G 69)] [] 103 I1 R J Q := by
    refine loopd (cM K) (fun I1 hK1 hS1 hM1 hF1 => ?_) (fun i hi ih I1 hK1 hS1 hM1 hF1 => ?_)
    · refine V_iload_n 64 0 rfl rfl dX11_passes_63 rfl ?_
      refine V_aload_n 65 1 rfl _ rfl rfl dX11_passes_64 rfl ?_
      refine V_getI 68 69 11 23 (nI (cM K)) hK1.2.2.1 flX11_181 rfl rfl rfl (by decide) dX11_passes_65 rfl ?_
      refine V_icmp_ge 126 71 rfl dX11_passes_68 rfl (fun c68 => ?_) (fun c68 => absurd (Int32.le_refl _) c68)
      refine V_iconst 127 (0) rfl dX11_passes_126 rfl ?_
      refine V_istore_n 128 [(1, .int 0), (0, rf G 69)] (by decide) rfl rfl dX11_passes_127 rfl ?_
      rw [← hD3] at hM1
      exact V_lv [0, 1] rfl (L4 0 (Nat.zero_le _) I1 hK1 hS1 hM1 hF1)
    · rw [dtF] at ih
      refine V_iload_n 64 0 rfl rfl dX11_passes_63 rfl ?_
      refine V_aload_n 65 1 rfl _ rfl rfl dX11_passes_64 rfl ?_
      refine V_getI 68 69 11 23 (nI (cM K)) hK1.2.2.1 flX11_181 rfl rfl rfl (by decide) dX11_passes_65 rfl ?_
      refine V_icmp_ge 126 71 rfl dX11_passes_68 rfl (fun c68 => absurd c68 (nI_ge hi (by omega))) (fun c68 => ?_)
      refine V_aload_n 72 1 rfl _ rfl rfl dX11_passes_71 rfl ?_
      refine V_getR 75 69 11 41 89 (hRM 41) flX11_74 rfl rfl rfl (by decide) dX11_passes_72 rfl ?_
      refine V_bipush 77 (30) rfl dX11_passes_75 rfl ?_
      refine V_iload_n 78 0 rfl rfl dX11_passes_77 rfl ?_
      refine V_iadd 79 dX11_passes_78 rfl ?_
      refine V_rw (nI_add 30 i) ?_
      refine V_ialdN 80 89 51 (30 + i) (dtF K D2 i (30 + i)) (hM1 (30 + i) (by omega)) (by omega) (by decide) rfl (by decide) dX11_passes_79 rfl ?_
      refine V_iconst 81 (1) rfl dX11_passes_80 rfl ?_
      refine V_icmp_ne 120 84 rfl dX11_passes_81 rfl (fun c81 => ?_) (fun c81 => ?_)
      · refine V_iinc 123 0 rfl (nI (i + 1)) [(1, .int (nI (i + 1))), (0, rf G 69)] (nI_1 _) (by decide) rfl dX11_passes_120 rfl ?_
        refine V_goto 63 rfl dX11_passes_123 ?_
        rw [if_neg (fun q => by first | exact c81 q.1 | exact q.2.1 c94 | exact absurd q.2.2 (Int32.not_lt.mpr c112))] at ih
        exact V_lv [0, 1] rfl (ih I1 hK1 hS1 hM1 hF1)
      · refine V_aload_n 85 1 rfl _ rfl rfl dX11_passes_84 rfl ?_
        refine V_getR 88 69 11 41 89 (hRM 41) flX11_74 rfl rfl rfl (by decide) dX11_passes_85 rfl ?_
        refine V_bipush 90 (6) rfl dX11_passes_88 rfl ?_
        refine V_iload_n 91 0 rfl rfl dX11_passes_90 rfl ?_
        refine V_iadd 92 dX11_passes_91 rfl ?_
        refine V_rw (nI_add 6 i) ?_
        refine V_ialdN 93 89 51 (6 + i) (dtF K D2 i (6 + i)) (hM1 (6 + i) (by omega)) (by omega) (by decide) rfl (by decide) dX11_passes_92 rfl ?_
        refine V_iconst 94 (-1) rfl dX11_passes_93 rfl ?_
        refine V_icmp_eq 120 97 rfl dX11_passes_94 rfl (fun c94 => ?_) (fun c94 => ?_)
        · refine V_iinc 123 0 rfl (nI (i + 1)) [(1, .int (nI (i + 1))), (0, rf G 69)] (nI_1 _) (by decide) rfl dX11_passes_120 rfl ?_
          refine V_goto 63 rfl dX11_passes_123 ?_
          rw [if_neg (fun q => by first | exact c81 q.1 | exact q.2.1 c94 | exact absurd q.2.2 (Int32.not_lt.mpr c112))] at ih
          exact V_lv [0, 1] rfl (ih I1 hK1 hS1 hM1 hF1)
        · refine V_aload_n 98 1 rfl _ rfl rfl dX11_passes_97 rfl ?_
          refine V_getR 101 69 11 41 89 (hRM 41) flX11_74 rfl rfl rfl (by decide) dX11_passes_98 rfl ?_
          refine V_bipush 103 (18) rfl dX11_passes_101 rfl ?_
          refine V_iload_n 104 0 rfl rfl dX11_passes_103 rfl ?_
          refine V_iadd 105 dX11_passes_104 rfl ?_
          refine V_rw (nI_add 18 i) ?_
          refine V_ialdN 106 89 51 (18 + i) (dtF K D2 i (18 + i)) (hM1 (18 + i) (by omega)) (by omega) (by decide) rfl (by decide) dX11_passes_105 rfl ?_
          refine V_aload_n 107 1 rfl _ rfl rfl dX11_passes_106 rfl ?_
          refine V_getR 110 69 11 16 78 (hRM 16) flX11_41 rfl rfl rfl (by decide) dX11_passes_107 rfl ?_
          refine V_iload_n 111 0 rfl rfl dX11_passes_110 rfl ?_
          refine V_ialdN 112 78 6 i (cBt K i) (hK1.2.2.2.2.2.1 i hi) (by omega) (by decide) rfl (by decide) dX11_passes_111 rfl ?_
          refine V_icmp_le 120 115 rfl dX11_passes_112 rfl (fun c112 => ?_) (fun c112 => ?_)
          · refine V_iinc 123 0 rfl (nI (i + 1)) [(1, .int (nI (i + 1))), (0, rf G 69)] (nI_1 _) (by decide) rfl dX11_passes_120 rfl ?_
            refine V_goto 63 rfl dX11_passes_123 ?_
            rw [if_neg (fun q => by first | exact c81 q.1 | exact q.2.1 c94 | exact absurd q.2.2 (Int32.not_lt.mpr c112))] at ih
            exact V_lv [0, 1] rfl (ih I1 hK1 hS1 hM1 hF1)
          · refine V_aload_n 116 1 rfl _ rfl rfl dX11_passes_115 rfl ?_
            refine V_iload_n 117 0 rfl rfl dX11_passes_116 rfl ?_
            refine V_callV (K' := 0) (S' := 0) 120 69 11 1 [.int (nI i)] mkX11_dies lkX11_374 (by decide) rfl rfl (by decide) rfl (Nat.le_of_ble_eq_true rfl) (Nat.le_of_ble_eq_true rfl) (Nat.le_of_ble_eq_true rfl) (Nat.le_of_ble_eq_true rfl) rfl rfl dX11_passes_117 rfl (c_X11_dies hRM hK1 hW hM1 (s2.dt hW i (by omega)) hi (fun I2 hM2 hF2 => ?_))
            refine Kq_v (k' := 0) (sl' := 0) rfl rfl ?_
            refine V_iinc 123 0 rfl (nI (i + 1)) [(1, .int (nI (i + 1))), (0, rf G 69)] (nI_1 _) (by decide) rfl dX11_passes_120 rfl ?_
            refine V_goto 63 rfl dX11_passes_123 ?_
            rw [if_pos ⟨c81, c94, Int32.not_le.mp c112⟩] at ih
            exact V_lv [0, 1] rfl (ih I2 (hK1.frS hF2.S) (fun j hj => by rw [hF2 91 (by decide)]; exact hS1 j hj) hM2 (hF1.tr hF2.S))
  have L2 : ∀ i, i ≤ cM K → ∀ I1, CoastM I1 K → (∀ j, j < cM K → I1 91 j = S j) → DayM I1 (huF S D i) → FrS I I1 → V G mX11_passes (d + 1 + 1 + 1 + 1 + 1) 0 0 0 0 29 [(1, .int (nI i)), (0, rf G 69)] [] 103 I1 R J Q := by
    refine loopd (cM K) (fun I1 hK1 hS1 hM1 hF1 => ?_) (fun i hi ih I1 hK1 hS1 hM1 hF1 => ?_)
    · refine V_iload_n 30 0 rfl rfl dX11_passes_29 rfl ?_
      refine V_aload_n 31 1 rfl _ rfl rfl dX11_passes_30 rfl ?_
      refine V_getI 34 69 11 23 (nI (cM K)) hK1.2.2.1 flX11_181 rfl rfl rfl (by decide) dX11_passes_31 rfl ?_
      refine V_icmp_ge 61 37 rfl dX11_passes_34 rfl (fun c34 => ?_) (fun c34 => absurd (Int32.le_refl _) c34)
      refine V_iconst 62 (0) rfl dX11_passes_61 rfl ?_
      refine V_istore_n 63 [(1, .int 0), (0, rf G 69)] (by decide) rfl rfl dX11_passes_62 rfl ?_
      rw [← hD2] at hM1
      exact V_lv [0, 1] rfl (L3 0 (Nat.zero_le _) I1 hK1 hS1 hM1 hF1)
    · refine V_iload_n 30 0 rfl rfl dX11_passes_29 rfl ?_
      refine V_aload_n 31 1 rfl _ rfl rfl dX11_passes_30 rfl ?_
      refine V_getI 34 69 11 23 (nI (cM K)) hK1.2.2.1 flX11_181 rfl rfl rfl (by decide) dX11_passes_31 rfl ?_
      refine V_icmp_ge 61 37 rfl dX11_passes_34 rfl (fun c34 => absurd c34 (nI_ge hi (by omega))) (fun c34 => ?_)
      refine V_aload_n 38 1 rfl _ rfl rfl dX11_passes_37 rfl ?_
      refine V_getR 41 69 11 41 89 (hRM 41) flX11_74 rfl rfl rfl (by decide) dX11_passes_38 rfl ?_
      refine V_bipush 43 (18) rfl dX11_passes_41 rfl ?_
      refine V_iload_n 44 0 rfl rfl dX11_passes_43 rfl ?_
      refine V_iadd 45 dX11_passes_44 rfl ?_
      refine V_rw (nI_add 18 i) ?_
      refine V_dup2 46 rfl rfl dX11_passes_45 rfl ?_
      refine V_ialdN 47 89 51 (18 + i) (huF S D i (18 + i)) (hM1 (18 + i) (by omega)) (by omega) (by decide) rfl (by decide) dX11_passes_46 rfl ?_
      refine V_aload_n 48 1 rfl _ rfl rfl dX11_passes_47 rfl ?_
      refine V_getR 51 69 11 43 91 (hRM 43) flX11_80 rfl rfl rfl (by decide) dX11_passes_48 rfl ?_
      refine V_iload_n 52 0 rfl rfl dX11_passes_51 rfl ?_
      refine V_ialdN 53 91 6 i (S i) (hS1 i hi) (by omega) (by decide) rfl (by decide) dX11_passes_52 rfl ?_
      refine V_iadd 54 dX11_passes_53 rfl ?_
      refine V_iastN 55 89 51 (18 + i) (by omega) (by decide) rfl (by decide) dX11_passes_54 rfl ?_
      refine V_iinc 58 0 rfl (nI (i + 1)) [(1, .int (nI (i + 1))), (0, rf G 69)] (nI_1 _) (by decide) rfl dX11_passes_55 rfl ?_
      refine V_goto 29 rfl dX11_passes_58 ?_
      exact V_lv [0, 1] rfl (ih _ (hK1.frS (FrS.rf.up (by decide))) (fun j hj => hS1 j hj) (DayM_u hM1 (by omega)) (hF1.up (by decide)))
  have L1 : ∀ i, i ≤ cM K → ∀ I1, CoastM I1 K → LawM I1 f → (∀ j, j < i → I1 91 j = S j) → DayM I1 D → FrS I I1 → V G mX11_passes (d + 1 + 1 + 1 + 1 + 1) 0 0 0 0 2 [(1, .int (nI i)), (0, rf G 69)] [] 103 I1 R J Q := by
    refine loopd (cM K) (fun I1 hK1 hL1 hS1 hM1 hF1 => ?_) (fun i hi ih I1 hK1 hL1 hS1 hM1 hF1 => ?_)
    · refine V_iload_n 3 0 rfl rfl dX11_passes_2 rfl ?_
      refine V_aload_n 4 1 rfl _ rfl rfl dX11_passes_3 rfl ?_
      refine V_getI 7 69 11 23 (nI (cM K)) hK1.2.2.1 flX11_181 rfl rfl rfl (by decide) dX11_passes_4 rfl ?_
      refine V_icmp_ge 27 10 rfl dX11_passes_7 rfl (fun c7 => ?_) (fun c7 => absurd (Int32.le_refl _) c7)
      refine V_iconst 28 (0) rfl dX11_passes_27 rfl ?_
      refine V_istore_n 29 [(1, .int 0), (0, rf G 69)] (by decide) rfl rfl dX11_passes_28 rfl ?_
      exact V_lv [0, 1] rfl (L2 0 (Nat.zero_le _) I1 hK1 hS1 hM1 hF1)
    · refine V_iload_n 3 0 rfl rfl dX11_passes_2 rfl ?_
      refine V_aload_n 4 1 rfl _ rfl rfl dX11_passes_3 rfl ?_
      refine V_getI 7 69 11 23 (nI (cM K)) hK1.2.2.1 flX11_181 rfl rfl rfl (by decide) dX11_passes_4 rfl ?_
      refine V_icmp_ge 27 10 rfl dX11_passes_7 rfl (fun c7 => absurd c7 (nI_ge hi (by omega))) (fun c7 => ?_)
      refine V_aload_n 11 1 rfl _ rfl rfl dX11_passes_10 rfl ?_
      refine V_getR 14 69 11 43 91 (hRM 43) flX11_80 rfl rfl rfl (by decide) dX11_passes_11 rfl ?_
      refine V_iload_n 15 0 rfl rfl dX11_passes_14 rfl ?_
      refine V_aload_n 16 1 rfl _ rfl rfl dX11_passes_15 rfl ?_
      refine V_iload_n 17 0 rfl rfl dX11_passes_16 rfl ?_
      refine V_callV (K' := 0) (S' := 0) 20 69 11 1 [.int (nI i)] mkX11_seaBy lkX11_380 (by decide) rfl rfl (by decide) rfl (Nat.le_of_ble_eq_true rfl) (Nat.le_of_ble_eq_true rfl) (Nat.le_of_ble_eq_true rfl) (Nat.le_of_ble_eq_true rfl) rfl rfl dX11_passes_17 rfl (c_X11_seaBy hRM hK1 hW hM1 hWD hB hL1 hi (fun I2 hI2 => ?_))
      rw [← hS]
      refine Kq_i (k' := 0) (sl' := 0) rfl rfl ?_
      refine V_iastN 21 91 6 i (by omega) (by decide) rfl (by decide) dX11_passes_20 rfl ?_
      refine V_iinc 24 0 rfl (nI (i + 1)) [(1, .int (nI (i + 1))), (0, rf G 69)] (nI_1 _) (by decide) rfl dX11_passes_21 rfl ?_
      refine V_goto 2 rfl dX11_passes_24 ?_
      have hF2 : FrS I1 (up2 I2 91 i (S i)) := fun a h1 h2 h3 h4 => by rw [up2_n _ _ _ h4]; exact hI2 a h1 h2
      refine V_lv [0, 1] rfl (ih _ (hK1.frS hF2) (hL1.frS hF2) (fun j hj => ?_) (fun k hk => by rw [up2_n _ _ _ (by decide), hI2 89 (by decide) (by decide)]; exact hM1 k hk) (hF1.tr hF2))
      rw [up2_s]; by_cases e : j = i
      · subst e; exact upd_s
      · rw [upd_n e, hI2 91 (by decide) (by decide)]; exact hS1 j (by omega)
  show V _ _ _ _ _ _ _ _ [(0, rf G 69)] [] _ _ _ _ _
  refine V_iconst 1 (0) rfl dX11_passes_0 rfl ?_
  refine V_istore_n 2 [(1, .int 0), (0, rf G 69)] (by decide) rfl rfl dX11_passes_1 rfl ?_
  exact V_lv [0, 1] rfl (L1 0 (Nat.zero_le _) I hK hL (fun j hj => absurd hj (Nat.not_lt_zero j)) hM FrS.rf)
