/-! ===== law: one call of the script ===== -/
def mL_law_ : MD := (yL_law_, cL_law_, 8, (some .boolean), [])
def sx (G : Gx) (i j : Nat) : Int32 := g_x G (nI (9 * i + j)).toNatClampNeg
def QL : Po := fun o _ _ _ _ => o = .inl (some (.int 1))
abbrev LV (G : Gx) (i : Nat) : List (Nat × Value) := [(4, .int (nI (9 * i))), (3, rf G 102), (2, rf G 69), (1, rf G 0), (0, .ref (g_s G))]
theorem HR.i {I : FI} {R : FR} {J : FJ} {Q : Po} {cd : Nat} {x : Tr} (h : ∀ I' w, SM I' R x.2 → (∀ a, a < 69 → I' a = I a) → I' 69 0 = thC cd x.1 → (∀ v, x.1 = .inl v → w = v) → Q (.inl (some (.int w))) 103 I' R J) : HR I R J Q cd x := by
  unfold HR
  cases e : x.1 with
  | inl v => exact fun I' h1 h2 h3 _ => h I' v h1 h2 (by rw [e]; exact h3) (fun w q => by rw [e] at q; cases q; rfl)
  | inr k => exact fun I' h1 h2 h3 _ => h I' 0 h1 h2 (by rw [e]; exact h3) (fun w q => by rw [e] at q; cases q)
theorem HRL.i {I : FI} {R : FR} {J : FJ} {Q : Po} {cd : Nat} {x : OcL × SG} (h : ∀ I' w, SM I' R x.2 → (∀ a, a < 69 → I' a = I a) → I' 69 0 = thL cd x.1 → (∀ v, x.1 = .inl v → w = v) → Q (.inl (some (.long w))) 103 I' R J) : HRL I R J Q cd x := by
  unfold HRL
  cases e : x.1 with
  | inl v => exact fun I' h1 h2 h3 _ => h I' v h1 h2 (by rw [e]; exact h3) (fun w q => by rw [e] at q; cases q; rfl)
  | inr k => exact fun I' h1 h2 h3 _ => h I' 0 h1 h2 (by rw [e]; exact h3) (fun w q => by rw [e] at q; cases q)
theorem HC.i {I : FI} {R : FR} {J : FJ} {Q : Po} {x : Tr} (hx : ∃ v, x.1 = .inl v) (h : ∀ I' R' v, x.1 = .inl v → SC I' R' x.2 → FrCl I I' R R' → Q (.inl (some (.int v))) 103 I' R' J) : HC I R J Q x := by
  intro I' R' h1 h2
  obtain ⟨v, e⟩ := hx
  rw [e]
  exact h I' R' v e h1 h2
theorem th0 {cd : Nat} {o : Oc} (h0 : 0 < cd) (h9 : cd < 9) (h : thC cd o = 0) : ∃ v, o = .inl v := by
  cases o with
  | inl v => exact ⟨v, rfl⟩
  | inr k =>
    have q : nI (if k = 0 then 1 else cd) = 0 := h
    by_cases c : k = 0
    · rw [if_pos c] at q; exact absurd q (by decide)
    · rw [if_neg c] at q; exact absurd q (nI_ne0 h0 (by omega))
theorem th0L {cd : Nat} {o : OcL} (h0 : 0 < cd) (h9 : cd < 9) (h : thL cd o = 0) : ∃ v, o = .inl v := by
  cases o with
  | inl v => exact ⟨v, rfl⟩
  | inr k =>
    have q : nI (if k = 0 then 1 else cd) = 0 := h
    by_cases c : k = 0
    · rw [if_pos c] at q; exact absurd q (by decide)
    · rw [if_neg c] at q; exact absurd q (nI_ne0 h0 (by omega))
theorem lg_eq {x y : Int64} (h : x = y) : lg_cmp x y = 0 := by
  subst h
  unfold lg_cmp
  rw [if_neg (Int64.lt_irrefl), if_pos rfl]
theorem ex_feed {s : SG} {a b c d e : Int32} : ∃ v, (feedT s a b c d e).1 = .inl v := by unfold feedT; split <;> exact ⟨_, rfl⟩
theorem ex_undo {s : SG} : ∃ v, (undoT s).1 = .inl v := by unfold undoT; split <;> exact ⟨_, rfl⟩
theorem ex_image {s : SG} : ∃ v, (imageT s).1 = .inl v := by unfold imageT; split <;> exact ⟨_, rfl⟩
theorem ex_rest {s : SG} : ∃ v, (restT s).1 = .inl v := by unfold restT; split <;> exact ⟨_, rfl⟩
theorem lw_feed {G : Gx} {d : Nat} {I : FI} {R : FR} {J : FJ} {s : SG} {i k sl : Nat} (hX : SC I R s) (hM : SM I R s) (hS : SI s) (hL : 9 * i + 9 ≤ g_L G) (hL2 : g_L G ≤ 4608) (hk : k ≤ 1000 + 8 * i) (hsl : sl ≤ 100000 + 48 * i) (nd : ∀ k' sl' s' I' R' J', k' ≤ 1008 + 8 * i → sl' ≤ 100048 + 48 * i → SI s' → SC I' R' s' → SM I' R' s' → V G mL_law_ (d + 902) 601024 7293034 k' sl' 2352 (LV G i) [] 103 I' R' J' QL) : V G mL_law_ (d + 902) 601024 7293034 k sl 196 (LV G i) [] 103 I R J QL := by
  refine V_aload_n 197 3 rfl _ rfl rfl dL_law__196 rfl ?_
  refine V_aload_n 198 4 rfl _ rfl rfl dL_law__197 rfl ?_
  refine V_iload 200 0 rfl dL_law__198 rfl ?_
  refine V_iconst 201 (1) rfl dL_law__200 rfl ?_
  refine V_iadd 202 dL_law__201 rfl ?_
  refine V_rw (nI_add (9 * i) 1) ?_
  refine V_sld 203 (sx G i 1) rfl (vp_in_nI (by omega) (by omega)) dL_law__202 rfl ?_
  refine V_aload_n 204 4 rfl _ rfl rfl dL_law__203 rfl ?_
  refine V_iload 206 0 rfl dL_law__204 rfl ?_
  refine V_iconst 207 (2) rfl dL_law__206 rfl ?_
  refine V_iadd 208 dL_law__207 rfl ?_
  refine V_rw (nI_add (9 * i) 2) ?_
  refine V_sld 209 (sx G i 2) rfl (vp_in_nI (by omega) (by omega)) dL_law__208 rfl ?_
  refine V_aload_n 210 4 rfl _ rfl rfl dL_law__209 rfl ?_
  refine V_iload 212 0 rfl dL_law__210 rfl ?_
  refine V_iconst 213 (3) rfl dL_law__212 rfl ?_
  refine V_iadd 214 dL_law__213 rfl ?_
  refine V_rw (nI_add (9 * i) 3) ?_
  refine V_sld 215 (sx G i 3) rfl (vp_in_nI (by omega) (by omega)) dL_law__214 rfl ?_
  refine V_aload_n 216 4 rfl _ rfl rfl dL_law__215 rfl ?_
  refine V_iload 218 0 rfl dL_law__216 rfl ?_
  refine V_iconst 219 (4) rfl dL_law__218 rfl ?_
  refine V_iadd 220 dL_law__219 rfl ?_
  refine V_rw (nI_add (9 * i) 4) ?_
  refine V_sld 221 (sx G i 4) rfl (vp_in_nI (by omega) (by omega)) dL_law__220 rfl ?_
  refine V_aload_n 222 4 rfl _ rfl rfl dL_law__221 rfl ?_
  refine V_iload 224 0 rfl dL_law__222 rfl ?_
  refine V_iconst 225 (5) rfl dL_law__224 rfl ?_
  refine V_iadd 226 dL_law__225 rfl ?_
  refine V_rw (nI_add (9 * i) 5) ?_
  refine V_sld 227 (sx G i 5) rfl (vp_in_nI (by omega) (by omega)) dL_law__226 rfl ?_
  refine V_callV (K' := 0) (S' := 0) 230 0 10 5 [.int (sx G i 1), .int (sx G i 2), .int (sx G i 3), .int (sx G i 4), .int (sx G i 5)] mkX10_feed lkL_108 (by decide) rfl rfl (by decide) rfl (Nat.le_of_ble_eq_true rfl) (by omega) (by omega) (Nat.le_of_ble_eq_true rfl) rfl rfl dL_law__227 rfl (c_X10_feed (d := d + 1) hX hS (HC.i (x := feedT s (sx G i 1) (sx G i 2) (sx G i 3) (sx G i 4) (sx G i 5)) (ex_feed) (fun I1 R1 v1 ev1 hC1 hF1 => ?_)))
  refine Kq_i (k' := k) (sl' := sl) rfl rfl ?_
  have hM1 := hM.cl hF1
  refine V_aload_n 231 2 rfl _ rfl rfl dL_law__230 rfl ?_
  refine V_aload_n 232 4 rfl _ rfl rfl dL_law__231 rfl ?_
  refine V_iload 234 0 rfl dL_law__232 rfl ?_
  refine V_iconst 235 (1) rfl dL_law__234 rfl ?_
  refine V_iadd 236 dL_law__235 rfl ?_
  refine V_rw (nI_add (9 * i) 1) ?_
  refine V_sld 237 (sx G i 1) rfl (vp_in_nI (by omega) (by omega)) dL_law__236 rfl ?_
  refine V_aload_n 238 4 rfl _ rfl rfl dL_law__237 rfl ?_
  refine V_iload 240 0 rfl dL_law__238 rfl ?_
  refine V_iconst 241 (2) rfl dL_law__240 rfl ?_
  refine V_iadd 242 dL_law__241 rfl ?_
  refine V_rw (nI_add (9 * i) 2) ?_
  refine V_sld 243 (sx G i 2) rfl (vp_in_nI (by omega) (by omega)) dL_law__242 rfl ?_
  refine V_aload_n 244 4 rfl _ rfl rfl dL_law__243 rfl ?_
  refine V_iload 246 0 rfl dL_law__244 rfl ?_
  refine V_iconst 247 (3) rfl dL_law__246 rfl ?_
  refine V_iadd 248 dL_law__247 rfl ?_
  refine V_rw (nI_add (9 * i) 3) ?_
  refine V_sld 249 (sx G i 3) rfl (vp_in_nI (by omega) (by omega)) dL_law__248 rfl ?_
  refine V_aload_n 250 4 rfl _ rfl rfl dL_law__249 rfl ?_
  refine V_iload 252 0 rfl dL_law__250 rfl ?_
  refine V_iconst 253 (4) rfl dL_law__252 rfl ?_
  refine V_iadd 254 dL_law__253 rfl ?_
  refine V_rw (nI_add (9 * i) 4) ?_
  refine V_sld 255 (sx G i 4) rfl (vp_in_nI (by omega) (by omega)) dL_law__254 rfl ?_
  refine V_aload_n 256 4 rfl _ rfl rfl dL_law__255 rfl ?_
  refine V_iload 258 0 rfl dL_law__256 rfl ?_
  refine V_iconst 259 (5) rfl dL_law__258 rfl ?_
  refine V_iadd 260 dL_law__259 rfl ?_
  refine V_rw (nI_add (9 * i) 5) ?_
  refine V_sld 261 (sx G i 5) rfl (vp_in_nI (by omega) (by omega)) dL_law__260 rfl ?_
  refine V_callV (K' := 0) (S' := 0) 264 69 11 5 [.int (sx G i 1), .int (sx G i 2), .int (sx G i 3), .int (sx G i 4), .int (sx G i 5)] mkX11_feed lkL_111 (by decide) rfl rfl (by decide) rfl (Nat.le_of_ble_eq_true rfl) (by omega) (by omega) (Nat.le_of_ble_eq_true rfl) rfl rfl dL_law__261 rfl (c_X11_feed (d := d + 1) (cd := 1) hM1 hS (HR.i (x := feedT s (sx G i 1) (sx G i 2) (sx G i 3) (sx G i 4) (sx G i 5)) (fun I2 w2 hM2 hg2 ht2 hw2 => ?_)))
  refine Kq_i (k' := k) (sl' := sl) rfl rfl ?_
  have hC2 := hC1.rf hg2
  refine V_icmp_eq 2352 267 rfl dL_law__264 rfl (fun c264 => ?_) (fun c264 => absurd (hw2 v1 ev1).symm c264)
  exact V_lv [0, 1, 2, 3, 4] rfl (nd _ _ _ _ _ _ (by omega) (by omega) (SI_feed hS _ _ _ _ _) hC2 hM2)
theorem lw_coast {G : Gx} {d : Nat} {I : FI} {R : FR} {J : FJ} {s : SG} {i k sl : Nat} (hX : SC I R s) (hM : SM I R s) (hS : SI s) (hL : 9 * i + 9 ≤ g_L G) (hL2 : g_L G ≤ 4608) (hk : k ≤ 1000 + 8 * i) (hsl : sl ≤ 100000 + 48 * i) (nd : ∀ k' sl' s' I' R' J', k' ≤ 1008 + 8 * i → sl' ≤ 100048 + 48 * i → SI s' → SC I' R' s' → SM I' R' s' → V G mL_law_ (d + 902) 601024 7293034 k' sl' 2352 (LV G i) [] 103 I' R' J' QL) : V G mL_law_ (d + 902) 601024 7293034 k sl 269 (LV G i) [] 103 I R J QL := by
  refine V_aload_n 270 3 rfl _ rfl rfl dL_law__269 rfl ?_
  refine V_aload_n 271 4 rfl _ rfl rfl dL_law__270 rfl ?_
  refine V_iload 273 0 rfl dL_law__271 rfl ?_
  refine V_iconst 274 (1) rfl dL_law__273 rfl ?_
  refine V_iadd 275 dL_law__274 rfl ?_
  refine V_rw (nI_add (9 * i) 1) ?_
  refine V_sld 276 (sx G i 1) rfl (vp_in_nI (by omega) (by omega)) dL_law__275 rfl ?_
  refine V_aload_n 277 1 rfl _ rfl rfl dL_law__276 rfl ?_
  refine V_callSw (K' := 8) (S' := 48) 280 3 [rf G 0, .int (sx G i 1), rf G 102] mkL_coast lkL_112 rfl (Nat.le_of_ble_eq_true rfl) (by omega) (by omega) (Nat.le_of_ble_eq_true rfl) rfl rfl dL_law__277 rfl (h_coast (d := d) (x := coastT s (sx G i 1)) qk_coast (fun Q' h => c_X10_coast hX hS h) (fun I1 R1 J1 hC1 hF1 hJ1 => ?_))
  refine Kq_i (k' := (k + 8)) (sl' := (sl + 48)) rfl rfl ?_
  have hM1 := hM.cl hF1
  refine V_topi (fun kk ekk => ?_)
  refine V_istore 282 [(5, .int kk), (4, .int (nI (9 * i))), (3, rf G 102), (2, rf G 69), (1, rf G 0), (0, .ref (g_s G))] (by decide) rfl dL_law__280 rfl ?_
  refine V_aload_n 283 3 rfl _ rfl rfl dL_law__282 rfl ?_
  refine V_aload_n 284 5 rfl _ rfl rfl dL_law__283 rfl ?_
  refine V_iload 286 1 rfl dL_law__284 rfl ?_
  refine V_iconst 287 (1) rfl dL_law__286 rfl ?_
  refine V_iadd 288 dL_law__287 rfl ?_
  refine V_rw (nI_add (9 * i) 1) ?_
  refine V_sld 289 (sx G i 1) rfl (vp_in_nI (by omega) (by omega)) dL_law__288 rfl ?_
  refine V_callV (K' := 0) (S' := 0) 292 69 11 1 [.int (sx G i 1)] mkX11_coast lkL_117 (by decide) rfl rfl (by decide) rfl (Nat.le_of_ble_eq_true rfl) (by omega) (by omega) (Nat.le_of_ble_eq_true rfl) rfl rfl dL_law__289 rfl (c_X11_coast (d := d + 1) hM1 hS (HR.i (fun I2 w2 hM2 hg2 ht2 hw2 => ?_)))
  refine Kq_i (k' := (k + 8)) (sl' := (sl + 48)) rfl rfl ?_
  have hC2 := hC1.rf hg2
  refine V_istore 294 [(6, .int w2), (5, .int kk), (4, .int (nI (9 * i))), (3, rf G 102), (2, rf G 69), (1, rf G 0), (0, .ref (g_s G))] (by decide) rfl dL_law__292 rfl ?_
  refine V_aload_n 295 4 rfl _ rfl rfl dL_law__294 rfl ?_
  refine V_callV (K' := 0) (S' := 0) 298 69 11 0 [] mkX11_thrown lkL_118 (by decide) rfl rfl (by decide) rfl (Nat.le_of_ble_eq_true rfl) (by omega) (by omega) (Nat.le_of_ble_eq_true rfl) rfl rfl dL_law__295 rfl (c_X11_thrown ?_)
  refine Kq_i (k' := (k + 8)) (sl' := (sl + 48)) rfl rfl ?_
  refine V_rw (ht2.trans ekk.symm) ?_
  refine V_iload 300 1 rfl dL_law__298 rfl ?_
  refine V_icmp_eq 305 303 rfl dL_law__300 rfl (fun c300 => ?_) (fun c300 => absurd rfl c300)
  refine V_iload 307 1 rfl dL_law__305 rfl ?_
  refine V_if_ne 322 310 rfl dL_law__307 rfl (fun c307 => ?_) (fun c307 => ?_)
  · refine V_goto 2352 rfl dL_law__322 ?_
    exact V_lv [2, 3, 4, 5, 6] rfl (nd _ _ _ _ _ _ (by omega) (by omega) (SI_coast hS _) hC2 hM2)
  · refine V_aload_n 311 3 rfl _ rfl rfl dL_law__310 rfl ?_
    refine V_iconst 312 (0) rfl dL_law__311 rfl ?_
    refine V_lald 313 102 1 (J1 102 0) rfl (vp_in_nI (n := 0) (N := 1) (by decide) (by decide)) rfl (by decide) dL_law__312 rfl ?_
    refine V_iload 315 0 rfl dL_law__313 rfl ?_
    refine V_i2l 316 dL_law__315 rfl ?_
    refine V_lcmp 317 dL_law__316 rfl ?_
    have hz0 : lg_cmp (J1 102 0) w2.toInt64 = 0 := by
      obtain ⟨v, ev⟩ := th0 (cd := 1) (by decide) (by decide) (ekk.symm.trans (by first | exact c307 | exact Classical.not_not.mp c307))
      exact lg_eq (by rw [hw2 v ev]; exact hJ1 v ev)
    refine V_if_eq 322 320 rfl dL_law__317 rfl (fun c317 => ?_) (fun c317 => absurd hz0 c317)
    refine V_goto 2352 rfl dL_law__322 ?_
    exact V_lv [2, 3, 4, 5, 6] rfl (nd _ _ _ _ _ _ (by omega) (by omega) (SI_coast hS _) hC2 hM2)
theorem lw_law {G : Gx} {d : Nat} {I : FI} {R : FR} {J : FJ} {s : SG} {i k sl : Nat} (hX : SC I R s) (hM : SM I R s) (hS : SI s) (hL : 9 * i + 9 ≤ g_L G) (hL2 : g_L G ≤ 4608) (hk : k ≤ 1000 + 8 * i) (hsl : sl ≤ 100000 + 48 * i) (nd : ∀ k' sl' s' I' R' J', k' ≤ 1008 + 8 * i → sl' ≤ 100048 + 48 * i → SI s' → SC I' R' s' → SM I' R' s' → V G mL_law_ (d + 902) 601024 7293034 k' sl' 2352 (LV G i) [] 103 I' R' J' QL) : V G mL_law_ (d + 902) 601024 7293034 k sl 325 (LV G i) [] 103 I R J QL := by
  refine V_aload_n 326 3 rfl _ rfl rfl dL_law__325 rfl ?_
  refine V_aload_n 327 4 rfl _ rfl rfl dL_law__326 rfl ?_
  refine V_iload 329 0 rfl dL_law__327 rfl ?_
  refine V_iconst 330 (1) rfl dL_law__329 rfl ?_
  refine V_iadd 331 dL_law__330 rfl ?_
  refine V_rw (nI_add (9 * i) 1) ?_
  refine V_sld 332 (sx G i 1) rfl (vp_in_nI (by omega) (by omega)) dL_law__331 rfl ?_
  refine V_aload_n 333 1 rfl _ rfl rfl dL_law__332 rfl ?_
  refine V_callSw (K' := 8) (S' := 48) 336 3 [rf G 0, .int (sx G i 1), rf G 102] mkL_law lkL_122 rfl (Nat.le_of_ble_eq_true rfl) (by omega) (by omega) (Nat.le_of_ble_eq_true rfl) rfl rfl dL_law__333 rfl (h_law (d := d) (x := lawT s (sx G i 1)) qk_law (fun Q' h => c_X10_law hX hS h) (fun I1 R1 J1 hC1 hF1 hJ1 => ?_))
  refine Kq_i (k' := (k + 8)) (sl' := (sl + 48)) rfl rfl ?_
  have hM1 := hM.cl hF1
  refine V_topi (fun kk ekk => ?_)
  refine V_istore 338 [(5, .int kk), (4, .int (nI (9 * i))), (3, rf G 102), (2, rf G 69), (1, rf G 0), (0, .ref (g_s G))] (by decide) rfl dL_law__336 rfl ?_
  refine V_aload_n 339 3 rfl _ rfl rfl dL_law__338 rfl ?_
  refine V_aload_n 340 5 rfl _ rfl rfl dL_law__339 rfl ?_
  refine V_iload 342 1 rfl dL_law__340 rfl ?_
  refine V_iconst 343 (1) rfl dL_law__342 rfl ?_
  refine V_iadd 344 dL_law__343 rfl ?_
  refine V_rw (nI_add (9 * i) 1) ?_
  refine V_sld 345 (sx G i 1) rfl (vp_in_nI (by omega) (by omega)) dL_law__344 rfl ?_
  refine V_callV (K' := 0) (S' := 0) 348 69 11 1 [.int (sx G i 1)] mkX11_law lkL_124 (by decide) rfl rfl (by decide) rfl (Nat.le_of_ble_eq_true rfl) (by omega) (by omega) (Nat.le_of_ble_eq_true rfl) rfl rfl dL_law__345 rfl (c_X11_law (d := d + 1) hM1 hS (HR.i (fun I2 w2 hM2 hg2 ht2 hw2 => ?_)))
  refine Kq_i (k' := (k + 8)) (sl' := (sl + 48)) rfl rfl ?_
  have hC2 := hC1.rf hg2
  refine V_istore 350 [(6, .int w2), (5, .int kk), (4, .int (nI (9 * i))), (3, rf G 102), (2, rf G 69), (1, rf G 0), (0, .ref (g_s G))] (by decide) rfl dL_law__348 rfl ?_
  refine V_aload_n 351 4 rfl _ rfl rfl dL_law__350 rfl ?_
  refine V_callV (K' := 0) (S' := 0) 354 69 11 0 [] mkX11_thrown lkL_118 (by decide) rfl rfl (by decide) rfl (Nat.le_of_ble_eq_true rfl) (by omega) (by omega) (Nat.le_of_ble_eq_true rfl) rfl rfl dL_law__351 rfl (c_X11_thrown ?_)
  refine Kq_i (k' := (k + 8)) (sl' := (sl + 48)) rfl rfl ?_
  refine V_rw (ht2.trans ekk.symm) ?_
  refine V_iload 356 1 rfl dL_law__354 rfl ?_
  refine V_icmp_eq 361 359 rfl dL_law__356 rfl (fun c356 => ?_) (fun c356 => absurd rfl c356)
  refine V_iload 363 1 rfl dL_law__361 rfl ?_
  refine V_if_ne 378 366 rfl dL_law__363 rfl (fun c363 => ?_) (fun c363 => ?_)
  · refine V_goto 2352 rfl dL_law__378 ?_
    exact V_lv [2, 3, 4, 5, 6] rfl (nd _ _ _ _ _ _ (by omega) (by omega) (SI_law hS _) hC2 hM2)
  · refine V_aload_n 367 3 rfl _ rfl rfl dL_law__366 rfl ?_
    refine V_iconst 368 (0) rfl dL_law__367 rfl ?_
    refine V_lald 369 102 1 (J1 102 0) rfl (vp_in_nI (n := 0) (N := 1) (by decide) (by decide)) rfl (by decide) dL_law__368 rfl ?_
    refine V_iload 371 0 rfl dL_law__369 rfl ?_
    refine V_i2l 372 dL_law__371 rfl ?_
    refine V_lcmp 373 dL_law__372 rfl ?_
    have hz0 : lg_cmp (J1 102 0) w2.toInt64 = 0 := by
      obtain ⟨v, ev⟩ := th0 (cd := 1) (by decide) (by decide) (ekk.symm.trans (by first | exact c363 | exact Classical.not_not.mp c363))
      exact lg_eq (by rw [hw2 v ev]; exact hJ1 v ev)
    refine V_if_eq 378 376 rfl dL_law__373 rfl (fun c373 => ?_) (fun c373 => absurd hz0 c373)
    refine V_goto 2352 rfl dL_law__378 ?_
    exact V_lv [2, 3, 4, 5, 6] rfl (nd _ _ _ _ _ _ (by omega) (by omega) (SI_law hS _) hC2 hM2)
theorem lw_work {G : Gx} {d : Nat} {I : FI} {R : FR} {J : FJ} {s : SG} {i k sl : Nat} (hX : SC I R s) (hM : SM I R s) (hS : SI s) (hL : 9 * i + 9 ≤ g_L G) (hL2 : g_L G ≤ 4608) (hk : k ≤ 1000 + 8 * i) (hsl : sl ≤ 100000 + 48 * i) (nd : ∀ k' sl' s' I' R' J', k' ≤ 1008 + 8 * i → sl' ≤ 100048 + 48 * i → SI s' → SC I' R' s' → SM I' R' s' → V G mL_law_ (d + 902) 601024 7293034 k' sl' 2352 (LV G i) [] 103 I' R' J' QL) : V G mL_law_ (d + 902) 601024 7293034 k sl 381 (LV G i) [] 103 I R J QL := by
  refine V_aload_n 382 3 rfl _ rfl rfl dL_law__381 rfl ?_
  refine V_aload_n 383 4 rfl _ rfl rfl dL_law__382 rfl ?_
  refine V_iload 385 0 rfl dL_law__383 rfl ?_
  refine V_iconst 386 (1) rfl dL_law__385 rfl ?_
  refine V_iadd 387 dL_law__386 rfl ?_
  refine V_rw (nI_add (9 * i) 1) ?_
  refine V_sld 388 (sx G i 1) rfl (vp_in_nI (by omega) (by omega)) dL_law__387 rfl ?_
  refine V_aload_n 389 1 rfl _ rfl rfl dL_law__388 rfl ?_
  refine V_callSw (K' := 8) (S' := 48) 392 3 [rf G 0, .int (sx G i 1), rf G 102] mkL_work lkL_125 rfl (Nat.le_of_ble_eq_true rfl) (by omega) (by omega) (Nat.le_of_ble_eq_true rfl) rfl rfl dL_law__389 rfl (h_work (d := d) (x := workT s (sx G i 1)) qk_work (fun Q' h => c_X10_work hX hS h) (fun I1 R1 J1 hC1 hF1 hJ1 => ?_))
  refine Kq_i (k' := (k + 8)) (sl' := (sl + 48)) rfl rfl ?_
  have hM1 := hM.cl hF1
  refine V_topi (fun kk ekk => ?_)
  refine V_istore 394 [(5, .int kk), (4, .int (nI (9 * i))), (3, rf G 102), (2, rf G 69), (1, rf G 0), (0, .ref (g_s G))] (by decide) rfl dL_law__392 rfl ?_
  refine V_aload_n 395 3 rfl _ rfl rfl dL_law__394 rfl ?_
  refine V_aload_n 396 5 rfl _ rfl rfl dL_law__395 rfl ?_
  refine V_iload 398 1 rfl dL_law__396 rfl ?_
  refine V_iconst 399 (1) rfl dL_law__398 rfl ?_
  refine V_iadd 400 dL_law__399 rfl ?_
  refine V_rw (nI_add (9 * i) 1) ?_
  refine V_sld 401 (sx G i 1) rfl (vp_in_nI (by omega) (by omega)) dL_law__400 rfl ?_
  refine V_callV (K' := 0) (S' := 0) 404 69 11 1 [.int (sx G i 1)] mkX11_work lkL_127 (by decide) rfl rfl (by decide) rfl (Nat.le_of_ble_eq_true rfl) (by omega) (by omega) (Nat.le_of_ble_eq_true rfl) rfl rfl dL_law__401 rfl (c_X11_work (d := d + 1) hM1 hS (HR.i (fun I2 w2 hM2 hg2 ht2 hw2 => ?_)))
  refine Kq_i (k' := (k + 8)) (sl' := (sl + 48)) rfl rfl ?_
  have hC2 := hC1.rf hg2
  refine V_istore 406 [(6, .int w2), (5, .int kk), (4, .int (nI (9 * i))), (3, rf G 102), (2, rf G 69), (1, rf G 0), (0, .ref (g_s G))] (by decide) rfl dL_law__404 rfl ?_
  refine V_aload_n 407 4 rfl _ rfl rfl dL_law__406 rfl ?_
  refine V_callV (K' := 0) (S' := 0) 410 69 11 0 [] mkX11_thrown lkL_118 (by decide) rfl rfl (by decide) rfl (Nat.le_of_ble_eq_true rfl) (by omega) (by omega) (Nat.le_of_ble_eq_true rfl) rfl rfl dL_law__407 rfl (c_X11_thrown ?_)
  refine Kq_i (k' := (k + 8)) (sl' := (sl + 48)) rfl rfl ?_
  refine V_rw (ht2.trans ekk.symm) ?_
  refine V_iload 412 1 rfl dL_law__410 rfl ?_
  refine V_icmp_eq 417 415 rfl dL_law__412 rfl (fun c412 => ?_) (fun c412 => absurd rfl c412)
  refine V_iload 419 1 rfl dL_law__417 rfl ?_
  refine V_if_ne 434 422 rfl dL_law__419 rfl (fun c419 => ?_) (fun c419 => ?_)
  · refine V_goto 2352 rfl dL_law__434 ?_
    exact V_lv [2, 3, 4, 5, 6] rfl (nd _ _ _ _ _ _ (by omega) (by omega) (SI_work hS _) hC2 hM2)
  · refine V_aload_n 423 3 rfl _ rfl rfl dL_law__422 rfl ?_
    refine V_iconst 424 (0) rfl dL_law__423 rfl ?_
    refine V_lald 425 102 1 (J1 102 0) rfl (vp_in_nI (n := 0) (N := 1) (by decide) (by decide)) rfl (by decide) dL_law__424 rfl ?_
    refine V_iload 427 0 rfl dL_law__425 rfl ?_
    refine V_i2l 428 dL_law__427 rfl ?_
    refine V_lcmp 429 dL_law__428 rfl ?_
    have hz0 : lg_cmp (J1 102 0) w2.toInt64 = 0 := by
      obtain ⟨v, ev⟩ := th0 (cd := 1) (by decide) (by decide) (ekk.symm.trans (by first | exact c419 | exact Classical.not_not.mp c419))
      exact lg_eq (by rw [hw2 v ev]; exact hJ1 v ev)
    refine V_if_eq 434 432 rfl dL_law__429 rfl (fun c429 => ?_) (fun c429 => absurd hz0 c429)
    refine V_goto 2352 rfl dL_law__434 ?_
    exact V_lv [2, 3, 4, 5, 6] rfl (nd _ _ _ _ _ _ (by omega) (by omega) (SI_work hS _) hC2 hM2)
theorem lw_book {G : Gx} {d : Nat} {I : FI} {R : FR} {J : FJ} {s : SG} {i k sl : Nat} (hX : SC I R s) (hM : SM I R s) (hS : SI s) (hL : 9 * i + 9 ≤ g_L G) (hL2 : g_L G ≤ 4608) (hk : k ≤ 1000 + 8 * i) (hsl : sl ≤ 100000 + 48 * i) (nd : ∀ k' sl' s' I' R' J', k' ≤ 1008 + 8 * i → sl' ≤ 100048 + 48 * i → SI s' → SC I' R' s' → SM I' R' s' → V G mL_law_ (d + 902) 601024 7293034 k' sl' 2352 (LV G i) [] 103 I' R' J' QL) : V G mL_law_ (d + 902) 601024 7293034 k sl 437 (LV G i) [] 103 I R J QL := by
  refine V_aload_n 438 3 rfl _ rfl rfl dL_law__437 rfl ?_
  refine V_aload_n 439 4 rfl _ rfl rfl dL_law__438 rfl ?_
  refine V_iload 441 0 rfl dL_law__439 rfl ?_
  refine V_iconst 442 (1) rfl dL_law__441 rfl ?_
  refine V_iadd 443 dL_law__442 rfl ?_
  refine V_rw (nI_add (9 * i) 1) ?_
  refine V_sld 444 (sx G i 1) rfl (vp_in_nI (by omega) (by omega)) dL_law__443 rfl ?_
  refine V_aload_n 445 1 rfl _ rfl rfl dL_law__444 rfl ?_
  refine V_callSw (K' := 8) (S' := 48) 448 3 [rf G 0, .int (sx G i 1), rf G 102] mkL_book lkL_128 rfl (Nat.le_of_ble_eq_true rfl) (by omega) (by omega) (Nat.le_of_ble_eq_true rfl) rfl rfl dL_law__445 rfl (h_book (d := d) (x := bookT s (sx G i 1)) qk_book (fun Q' h => c_X10_book hX hS h) (fun I1 R1 J1 hC1 hF1 hJ1 => ?_))
  refine Kq_i (k' := (k + 8)) (sl' := (sl + 48)) rfl rfl ?_
  have hM1 := hM.cl hF1
  refine V_topi (fun kk ekk => ?_)
  refine V_istore 450 [(5, .int kk), (4, .int (nI (9 * i))), (3, rf G 102), (2, rf G 69), (1, rf G 0), (0, .ref (g_s G))] (by decide) rfl dL_law__448 rfl ?_
  refine V_aload_n 451 3 rfl _ rfl rfl dL_law__450 rfl ?_
  refine V_aload_n 452 5 rfl _ rfl rfl dL_law__451 rfl ?_
  refine V_iload 454 1 rfl dL_law__452 rfl ?_
  refine V_iconst 455 (1) rfl dL_law__454 rfl ?_
  refine V_iadd 456 dL_law__455 rfl ?_
  refine V_rw (nI_add (9 * i) 1) ?_
  refine V_sld 457 (sx G i 1) rfl (vp_in_nI (by omega) (by omega)) dL_law__456 rfl ?_
  refine V_callV (K' := 0) (S' := 0) 460 69 11 1 [.int (sx G i 1)] mkX11_book lkL_130 (by decide) rfl rfl (by decide) rfl (Nat.le_of_ble_eq_true rfl) (by omega) (by omega) (Nat.le_of_ble_eq_true rfl) rfl rfl dL_law__457 rfl (c_X11_book (d := d + 1) hM1 hS (HR.i (fun I2 w2 hM2 hg2 ht2 hw2 => ?_)))
  refine Kq_i (k' := (k + 8)) (sl' := (sl + 48)) rfl rfl ?_
  have hC2 := hC1.rf hg2
  refine V_istore 462 [(6, .int w2), (5, .int kk), (4, .int (nI (9 * i))), (3, rf G 102), (2, rf G 69), (1, rf G 0), (0, .ref (g_s G))] (by decide) rfl dL_law__460 rfl ?_
  refine V_aload_n 463 4 rfl _ rfl rfl dL_law__462 rfl ?_
  refine V_callV (K' := 0) (S' := 0) 466 69 11 0 [] mkX11_thrown lkL_118 (by decide) rfl rfl (by decide) rfl (Nat.le_of_ble_eq_true rfl) (by omega) (by omega) (Nat.le_of_ble_eq_true rfl) rfl rfl dL_law__463 rfl (c_X11_thrown ?_)
  refine Kq_i (k' := (k + 8)) (sl' := (sl + 48)) rfl rfl ?_
  refine V_rw (ht2.trans ekk.symm) ?_
  refine V_iload 468 1 rfl dL_law__466 rfl ?_
  refine V_icmp_eq 473 471 rfl dL_law__468 rfl (fun c468 => ?_) (fun c468 => absurd rfl c468)
  refine V_iload 475 1 rfl dL_law__473 rfl ?_
  refine V_if_ne 490 478 rfl dL_law__475 rfl (fun c475 => ?_) (fun c475 => ?_)
  · refine V_goto 2352 rfl dL_law__490 ?_
    exact V_lv [2, 3, 4, 5, 6] rfl (nd _ _ _ _ _ _ (by omega) (by omega) (SI_book hS _) hC2 hM2)
  · refine V_aload_n 479 3 rfl _ rfl rfl dL_law__478 rfl ?_
    refine V_iconst 480 (0) rfl dL_law__479 rfl ?_
    refine V_lald 481 102 1 (J1 102 0) rfl (vp_in_nI (n := 0) (N := 1) (by decide) (by decide)) rfl (by decide) dL_law__480 rfl ?_
    refine V_iload 483 0 rfl dL_law__481 rfl ?_
    refine V_i2l 484 dL_law__483 rfl ?_
    refine V_lcmp 485 dL_law__484 rfl ?_
    have hz0 : lg_cmp (J1 102 0) w2.toInt64 = 0 := by
      obtain ⟨v, ev⟩ := th0 (cd := 1) (by decide) (by decide) (ekk.symm.trans (by first | exact c475 | exact Classical.not_not.mp c475))
      exact lg_eq (by rw [hw2 v ev]; exact hJ1 v ev)
    refine V_if_eq 490 488 rfl dL_law__485 rfl (fun c485 => ?_) (fun c485 => absurd hz0 c485)
    refine V_goto 2352 rfl dL_law__490 ?_
    exact V_lv [2, 3, 4, 5, 6] rfl (nd _ _ _ _ _ _ (by omega) (by omega) (SI_book hS _) hC2 hM2)
theorem lw_fault {G : Gx} {d : Nat} {I : FI} {R : FR} {J : FJ} {s : SG} {i k sl : Nat} (hX : SC I R s) (hM : SM I R s) (hS : SI s) (hL : 9 * i + 9 ≤ g_L G) (hL2 : g_L G ≤ 4608) (hk : k ≤ 1000 + 8 * i) (hsl : sl ≤ 100000 + 48 * i) (nd : ∀ k' sl' s' I' R' J', k' ≤ 1008 + 8 * i → sl' ≤ 100048 + 48 * i → SI s' → SC I' R' s' → SM I' R' s' → V G mL_law_ (d + 902) 601024 7293034 k' sl' 2352 (LV G i) [] 103 I' R' J' QL) : V G mL_law_ (d + 902) 601024 7293034 k sl 493 (LV G i) [] 103 I R J QL := by
  refine V_aload_n 494 3 rfl _ rfl rfl dL_law__493 rfl ?_
  refine V_callV (K' := 0) (S' := 0) 497 0 10 0 [] mkX10_fault lkL_131 (by decide) rfl rfl (by decide) rfl (Nat.le_of_ble_eq_true rfl) (by omega) (by omega) (Nat.le_of_ble_eq_true rfl) rfl rfl dL_law__494 rfl (c_X10_fault (d := d + 1) hX hS (HC.i (x := fltT s) (⟨_, rfl⟩) (fun I1 R1 v1 ev1 hC1 hF1 => ?_)))
  refine Kq_i (k' := k) (sl' := sl) rfl rfl ?_
  have hM1 := hM.cl hF1
  refine V_aload_n 498 2 rfl _ rfl rfl dL_law__497 rfl ?_
  refine V_callV (K' := 0) (S' := 0) 501 69 11 0 [] mkX11_fault lkL_134 (by decide) rfl rfl (by decide) rfl (Nat.le_of_ble_eq_true rfl) (by omega) (by omega) (Nat.le_of_ble_eq_true rfl) rfl rfl dL_law__498 rfl (c_X11_fault (d := d + 1) (cd := 1) hM1 hS (HR.i (x := fltT s) (fun I2 w2 hM2 hg2 ht2 hw2 => ?_)))
  refine Kq_i (k' := k) (sl' := sl) rfl rfl ?_
  have hC2 := hC1.rf hg2
  refine V_icmp_eq 2352 504 rfl dL_law__501 rfl (fun c501 => ?_) (fun c501 => absurd (hw2 v1 ev1).symm c501)
  exact V_lv [0, 1, 2, 3, 4] rfl (nd _ _ _ _ _ _ (by omega) (by omega) (hS) hC2 hM2)
theorem lw_undo {G : Gx} {d : Nat} {I : FI} {R : FR} {J : FJ} {s : SG} {i k sl : Nat} (hX : SC I R s) (hM : SM I R s) (hS : SI s) (hL : 9 * i + 9 ≤ g_L G) (hL2 : g_L G ≤ 4608) (hk : k ≤ 1000 + 8 * i) (hsl : sl ≤ 100000 + 48 * i) (nd : ∀ k' sl' s' I' R' J', k' ≤ 1008 + 8 * i → sl' ≤ 100048 + 48 * i → SI s' → SC I' R' s' → SM I' R' s' → V G mL_law_ (d + 902) 601024 7293034 k' sl' 2352 (LV G i) [] 103 I' R' J' QL) : V G mL_law_ (d + 902) 601024 7293034 k sl 506 (LV G i) [] 103 I R J QL := by
  refine V_aload_n 507 3 rfl _ rfl rfl dL_law__506 rfl ?_
  refine V_callV (K' := 0) (S' := 0) 510 0 10 0 [] mkX10_undo lkL_135 (by decide) rfl rfl (by decide) rfl (Nat.le_of_ble_eq_true rfl) (by omega) (by omega) (Nat.le_of_ble_eq_true rfl) rfl rfl dL_law__507 rfl (c_X10_undo (d := d + 1) hX hS (HC.i (x := undoT s) (ex_undo) (fun I1 R1 v1 ev1 hC1 hF1 => ?_)))
  refine Kq_i (k' := k) (sl' := sl) rfl rfl ?_
  have hM1 := hM.cl hF1
  refine V_aload_n 511 2 rfl _ rfl rfl dL_law__510 rfl ?_
  refine V_callV (K' := 0) (S' := 0) 514 69 11 0 [] mkX11_undo lkL_138 (by decide) rfl rfl (by decide) rfl (Nat.le_of_ble_eq_true rfl) (by omega) (by omega) (Nat.le_of_ble_eq_true rfl) rfl rfl dL_law__511 rfl (c_X11_undo (d := d + 1) (cd := 1) hM1 hS (HR.i (x := undoT s) (fun I2 w2 hM2 hg2 ht2 hw2 => ?_)))
  refine Kq_i (k' := k) (sl' := sl) rfl rfl ?_
  have hC2 := hC1.rf hg2
  refine V_icmp_eq 2352 517 rfl dL_law__514 rfl (fun c514 => ?_) (fun c514 => absurd (hw2 v1 ev1).symm c514)
  exact V_lv [0, 1, 2, 3, 4] rfl (nd _ _ _ _ _ _ (by omega) (by omega) (SI_undo hS) hC2 hM2)
theorem lw_told {G : Gx} {d : Nat} {I : FI} {R : FR} {J : FJ} {s : SG} {i k sl : Nat} (hX : SC I R s) (hM : SM I R s) (hS : SI s) (hL : 9 * i + 9 ≤ g_L G) (hL2 : g_L G ≤ 4608) (hk : k ≤ 1000 + 8 * i) (hsl : sl ≤ 100000 + 48 * i) (nd : ∀ k' sl' s' I' R' J', k' ≤ 1008 + 8 * i → sl' ≤ 100048 + 48 * i → SI s' → SC I' R' s' → SM I' R' s' → V G mL_law_ (d + 902) 601024 7293034 k' sl' 2352 (LV G i) [] 103 I' R' J' QL) : V G mL_law_ (d + 902) 601024 7293034 k sl 519 (LV G i) [] 103 I R J QL := by
  refine V_aload_n 520 3 rfl _ rfl rfl dL_law__519 rfl ?_
  refine V_aload_n 521 4 rfl _ rfl rfl dL_law__520 rfl ?_
  refine V_iload 523 0 rfl dL_law__521 rfl ?_
  refine V_iconst 524 (1) rfl dL_law__523 rfl ?_
  refine V_iadd 525 dL_law__524 rfl ?_
  refine V_rw (nI_add (9 * i) 1) ?_
  refine V_sld 526 (sx G i 1) rfl (vp_in_nI (by omega) (by omega)) dL_law__525 rfl ?_
  refine V_aload_n 527 1 rfl _ rfl rfl dL_law__526 rfl ?_
  refine V_callSw (K' := 8) (S' := 48) 530 3 [rf G 0, .int (sx G i 1), rf G 102] mkL_told lkL_139 rfl (Nat.le_of_ble_eq_true rfl) (by omega) (by omega) (Nat.le_of_ble_eq_true rfl) rfl rfl dL_law__527 rfl (h_told (d := d) (x := qT_told s (sx G i 1)) qk_told (fun Q' h => tC_told hX hS h) (fun I1 R1 J1 hC1 hF1 hJ1 => ?_))
  refine Kq_i (k' := (k + 8)) (sl' := (sl + 48)) rfl rfl ?_
  have hM1 := hM.cl hF1
  refine V_topi (fun kk ekk => ?_)
  refine V_istore 532 [(5, .int kk), (4, .int (nI (9 * i))), (3, rf G 102), (2, rf G 69), (1, rf G 0), (0, .ref (g_s G))] (by decide) rfl dL_law__530 rfl ?_
  refine V_aload_n 533 3 rfl _ rfl rfl dL_law__532 rfl ?_
  refine V_aload_n 534 5 rfl _ rfl rfl dL_law__533 rfl ?_
  refine V_iload 536 1 rfl dL_law__534 rfl ?_
  refine V_iconst 537 (1) rfl dL_law__536 rfl ?_
  refine V_iadd 538 dL_law__537 rfl ?_
  refine V_rw (nI_add (9 * i) 1) ?_
  refine V_sld 539 (sx G i 1) rfl (vp_in_nI (by omega) (by omega)) dL_law__538 rfl ?_
  refine V_callV (K' := 0) (S' := 0) 542 69 11 1 [.int (sx G i 1)] mkX11_told lkL_141 (by decide) rfl rfl (by decide) rfl (Nat.le_of_ble_eq_true rfl) (by omega) (by omega) (Nat.le_of_ble_eq_true rfl) rfl rfl dL_law__539 rfl (tM_told (d := d + 1) hM1 hS (HR.i (fun I2 w2 hM2 hg2 ht2 hw2 => ?_)))
  refine Kq_i (k' := (k + 8)) (sl' := (sl + 48)) rfl rfl ?_
  have hC2 := hC1.rf hg2
  refine V_istore 544 [(6, .int w2), (5, .int kk), (4, .int (nI (9 * i))), (3, rf G 102), (2, rf G 69), (1, rf G 0), (0, .ref (g_s G))] (by decide) rfl dL_law__542 rfl ?_
  refine V_aload_n 545 4 rfl _ rfl rfl dL_law__544 rfl ?_
  refine V_callV (K' := 0) (S' := 0) 548 69 11 0 [] mkX11_thrown lkL_118 (by decide) rfl rfl (by decide) rfl (Nat.le_of_ble_eq_true rfl) (by omega) (by omega) (Nat.le_of_ble_eq_true rfl) rfl rfl dL_law__545 rfl (c_X11_thrown ?_)
  refine Kq_i (k' := (k + 8)) (sl' := (sl + 48)) rfl rfl ?_
  refine V_rw (ht2.trans ekk.symm) ?_
  refine V_iload 550 1 rfl dL_law__548 rfl ?_
  refine V_icmp_eq 555 553 rfl dL_law__550 rfl (fun c550 => ?_) (fun c550 => absurd rfl c550)
  refine V_iload 557 1 rfl dL_law__555 rfl ?_
  refine V_if_ne 572 560 rfl dL_law__557 rfl (fun c557 => ?_) (fun c557 => ?_)
  · refine V_goto 2352 rfl dL_law__572 ?_
    exact V_lv [2, 3, 4, 5, 6] rfl (nd _ _ _ _ _ _ (by omega) (by omega) (SI_aft hS _) hC2 hM2)
  · refine V_aload_n 561 3 rfl _ rfl rfl dL_law__560 rfl ?_
    refine V_iconst 562 (0) rfl dL_law__561 rfl ?_
    refine V_lald 563 102 1 (J1 102 0) rfl (vp_in_nI (n := 0) (N := 1) (by decide) (by decide)) rfl (by decide) dL_law__562 rfl ?_
    refine V_iload 565 0 rfl dL_law__563 rfl ?_
    refine V_i2l 566 dL_law__565 rfl ?_
    refine V_lcmp 567 dL_law__566 rfl ?_
    have hz0 : lg_cmp (J1 102 0) w2.toInt64 = 0 := by
      obtain ⟨v, ev⟩ := th0 (cd := 1) (by decide) (by decide) (ekk.symm.trans (by first | exact c557 | exact Classical.not_not.mp c557))
      exact lg_eq (by rw [hw2 v ev]; exact hJ1 v ev)
    refine V_if_eq 572 570 rfl dL_law__567 rfl (fun c567 => ?_) (fun c567 => absurd hz0 c567)
    refine V_goto 2352 rfl dL_law__572 ?_
    exact V_lv [2, 3, 4, 5, 6] rfl (nd _ _ _ _ _ _ (by omega) (by omega) (SI_aft hS _) hC2 hM2)
theorem lw_hat {G : Gx} {d : Nat} {I : FI} {R : FR} {J : FJ} {s : SG} {i k sl : Nat} (hX : SC I R s) (hM : SM I R s) (hS : SI s) (hL : 9 * i + 9 ≤ g_L G) (hL2 : g_L G ≤ 4608) (hk : k ≤ 1000 + 8 * i) (hsl : sl ≤ 100000 + 48 * i) (nd : ∀ k' sl' s' I' R' J', k' ≤ 1008 + 8 * i → sl' ≤ 100048 + 48 * i → SI s' → SC I' R' s' → SM I' R' s' → V G mL_law_ (d + 902) 601024 7293034 k' sl' 2352 (LV G i) [] 103 I' R' J' QL) : V G mL_law_ (d + 902) 601024 7293034 k sl 575 (LV G i) [] 103 I R J QL := by
  refine V_aload_n 576 3 rfl _ rfl rfl dL_law__575 rfl ?_
  refine V_aload_n 577 4 rfl _ rfl rfl dL_law__576 rfl ?_
  refine V_iload 579 0 rfl dL_law__577 rfl ?_
  refine V_iconst 580 (1) rfl dL_law__579 rfl ?_
  refine V_iadd 581 dL_law__580 rfl ?_
  refine V_rw (nI_add (9 * i) 1) ?_
  refine V_sld 582 (sx G i 1) rfl (vp_in_nI (by omega) (by omega)) dL_law__581 rfl ?_
  refine V_aload_n 583 4 rfl _ rfl rfl dL_law__582 rfl ?_
  refine V_iload 585 0 rfl dL_law__583 rfl ?_
  refine V_iconst 586 (2) rfl dL_law__585 rfl ?_
  refine V_iadd 587 dL_law__586 rfl ?_
  refine V_rw (nI_add (9 * i) 2) ?_
  refine V_sld 588 (sx G i 2) rfl (vp_in_nI (by omega) (by omega)) dL_law__587 rfl ?_
  refine V_aload_n 589 1 rfl _ rfl rfl dL_law__588 rfl ?_
  refine V_callSw (K' := 8) (S' := 48) 592 4 [rf G 0, .int (sx G i 1), .int (sx G i 2), rf G 102] mkL_hat lkL_142 rfl (Nat.le_of_ble_eq_true rfl) (by omega) (by omega) (Nat.le_of_ble_eq_true rfl) rfl rfl dL_law__589 rfl (h_hat (d := d) (x := qT_hat s (sx G i 1) (sx G i 2)) qk_hat (fun Q' h => tC_hat hX hS h) (fun I1 R1 J1 hC1 hF1 hJ1 => ?_))
  refine Kq_i (k' := (k + 8)) (sl' := (sl + 48)) rfl rfl ?_
  have hM1 := hM.cl hF1
  refine V_topi (fun kk ekk => ?_)
  refine V_istore 594 [(5, .int kk), (4, .int (nI (9 * i))), (3, rf G 102), (2, rf G 69), (1, rf G 0), (0, .ref (g_s G))] (by decide) rfl dL_law__592 rfl ?_
  refine V_aload_n 595 3 rfl _ rfl rfl dL_law__594 rfl ?_
  refine V_aload_n 596 5 rfl _ rfl rfl dL_law__595 rfl ?_
  refine V_iload 598 1 rfl dL_law__596 rfl ?_
  refine V_iconst 599 (1) rfl dL_law__598 rfl ?_
  refine V_iadd 600 dL_law__599 rfl ?_
  refine V_rw (nI_add (9 * i) 1) ?_
  refine V_sld 601 (sx G i 1) rfl (vp_in_nI (by omega) (by omega)) dL_law__600 rfl ?_
  refine V_aload_n 602 5 rfl _ rfl rfl dL_law__601 rfl ?_
  refine V_iload 604 1 rfl dL_law__602 rfl ?_
  refine V_iconst 605 (2) rfl dL_law__604 rfl ?_
  refine V_iadd 606 dL_law__605 rfl ?_
  refine V_rw (nI_add (9 * i) 2) ?_
  refine V_sld 607 (sx G i 2) rfl (vp_in_nI (by omega) (by omega)) dL_law__606 rfl ?_
  refine V_callV (K' := 0) (S' := 0) 610 69 11 2 [.int (sx G i 1), .int (sx G i 2)] mkX11_hat lkL_145 (by decide) rfl rfl (by decide) rfl (Nat.le_of_ble_eq_true rfl) (by omega) (by omega) (Nat.le_of_ble_eq_true rfl) rfl rfl dL_law__607 rfl (tM_hat (d := d + 1) hM1 hS (HR.i (fun I2 w2 hM2 hg2 ht2 hw2 => ?_)))
  refine Kq_i (k' := (k + 8)) (sl' := (sl + 48)) rfl rfl ?_
  have hC2 := hC1.rf hg2
  refine V_istore 612 [(6, .int w2), (5, .int kk), (4, .int (nI (9 * i))), (3, rf G 102), (2, rf G 69), (1, rf G 0), (0, .ref (g_s G))] (by decide) rfl dL_law__610 rfl ?_
  refine V_aload_n 613 4 rfl _ rfl rfl dL_law__612 rfl ?_
  refine V_callV (K' := 0) (S' := 0) 616 69 11 0 [] mkX11_thrown lkL_118 (by decide) rfl rfl (by decide) rfl (Nat.le_of_ble_eq_true rfl) (by omega) (by omega) (Nat.le_of_ble_eq_true rfl) rfl rfl dL_law__613 rfl (c_X11_thrown ?_)
  refine Kq_i (k' := (k + 8)) (sl' := (sl + 48)) rfl rfl ?_
  refine V_rw (ht2.trans ekk.symm) ?_
  refine V_iload 618 1 rfl dL_law__616 rfl ?_
  refine V_icmp_eq 623 621 rfl dL_law__618 rfl (fun c618 => ?_) (fun c618 => absurd rfl c618)
  refine V_iload 625 1 rfl dL_law__623 rfl ?_
  refine V_if_ne 640 628 rfl dL_law__625 rfl (fun c625 => ?_) (fun c625 => ?_)
  · refine V_goto 2352 rfl dL_law__640 ?_
    exact V_lv [2, 3, 4, 5, 6] rfl (nd _ _ _ _ _ _ (by omega) (by omega) (SI_aft hS _) hC2 hM2)
  · refine V_aload_n 629 3 rfl _ rfl rfl dL_law__628 rfl ?_
    refine V_iconst 630 (0) rfl dL_law__629 rfl ?_
    refine V_lald 631 102 1 (J1 102 0) rfl (vp_in_nI (n := 0) (N := 1) (by decide) (by decide)) rfl (by decide) dL_law__630 rfl ?_
    refine V_iload 633 0 rfl dL_law__631 rfl ?_
    refine V_i2l 634 dL_law__633 rfl ?_
    refine V_lcmp 635 dL_law__634 rfl ?_
    have hz0 : lg_cmp (J1 102 0) w2.toInt64 = 0 := by
      obtain ⟨v, ev⟩ := th0 (cd := 2) (by decide) (by decide) (ekk.symm.trans (by first | exact c625 | exact Classical.not_not.mp c625))
      exact lg_eq (by rw [hw2 v ev]; exact hJ1 v ev)
    refine V_if_eq 640 638 rfl dL_law__635 rfl (fun c635 => ?_) (fun c635 => absurd hz0 c635)
    refine V_goto 2352 rfl dL_law__640 ?_
    exact V_lv [2, 3, 4, 5, 6] rfl (nd _ _ _ _ _ _ (by omega) (by omega) (SI_aft hS _) hC2 hM2)
theorem lw_ground {G : Gx} {d : Nat} {I : FI} {R : FR} {J : FJ} {s : SG} {i k sl : Nat} (hX : SC I R s) (hM : SM I R s) (hS : SI s) (hL : 9 * i + 9 ≤ g_L G) (hL2 : g_L G ≤ 4608) (hk : k ≤ 1000 + 8 * i) (hsl : sl ≤ 100000 + 48 * i) (nd : ∀ k' sl' s' I' R' J', k' ≤ 1008 + 8 * i → sl' ≤ 100048 + 48 * i → SI s' → SC I' R' s' → SM I' R' s' → V G mL_law_ (d + 902) 601024 7293034 k' sl' 2352 (LV G i) [] 103 I' R' J' QL) : V G mL_law_ (d + 902) 601024 7293034 k sl 643 (LV G i) [] 103 I R J QL := by
  refine V_aload_n 644 3 rfl _ rfl rfl dL_law__643 rfl ?_
  refine V_aload_n 645 4 rfl _ rfl rfl dL_law__644 rfl ?_
  refine V_iload 647 0 rfl dL_law__645 rfl ?_
  refine V_iconst 648 (1) rfl dL_law__647 rfl ?_
  refine V_iadd 649 dL_law__648 rfl ?_
  refine V_rw (nI_add (9 * i) 1) ?_
  refine V_sld 650 (sx G i 1) rfl (vp_in_nI (by omega) (by omega)) dL_law__649 rfl ?_
  refine V_aload_n 651 4 rfl _ rfl rfl dL_law__650 rfl ?_
  refine V_iload 653 0 rfl dL_law__651 rfl ?_
  refine V_iconst 654 (2) rfl dL_law__653 rfl ?_
  refine V_iadd 655 dL_law__654 rfl ?_
  refine V_rw (nI_add (9 * i) 2) ?_
  refine V_sld 656 (sx G i 2) rfl (vp_in_nI (by omega) (by omega)) dL_law__655 rfl ?_
  refine V_aload_n 657 1 rfl _ rfl rfl dL_law__656 rfl ?_
  refine V_callSw (K' := 8) (S' := 48) 660 4 [rf G 0, .int (sx G i 1), .int (sx G i 2), rf G 102] mkL_ground lkL_146 rfl (Nat.le_of_ble_eq_true rfl) (by omega) (by omega) (Nat.le_of_ble_eq_true rfl) rfl rfl dL_law__657 rfl (h_ground (d := d) (x := qT_ground s (sx G i 1) (sx G i 2)) qk_ground (fun Q' h => tC_ground hX hS h) (fun I1 R1 J1 hC1 hF1 hJ1 => ?_))
  refine Kq_i (k' := (k + 8)) (sl' := (sl + 48)) rfl rfl ?_
  have hM1 := hM.cl hF1
  refine V_topi (fun kk ekk => ?_)
  refine V_istore 662 [(5, .int kk), (4, .int (nI (9 * i))), (3, rf G 102), (2, rf G 69), (1, rf G 0), (0, .ref (g_s G))] (by decide) rfl dL_law__660 rfl ?_
  refine V_aload_n 663 3 rfl _ rfl rfl dL_law__662 rfl ?_
  refine V_aload_n 664 5 rfl _ rfl rfl dL_law__663 rfl ?_
  refine V_iload 666 1 rfl dL_law__664 rfl ?_
  refine V_iconst 667 (1) rfl dL_law__666 rfl ?_
  refine V_iadd 668 dL_law__667 rfl ?_
  refine V_rw (nI_add (9 * i) 1) ?_
  refine V_sld 669 (sx G i 1) rfl (vp_in_nI (by omega) (by omega)) dL_law__668 rfl ?_
  refine V_aload_n 670 5 rfl _ rfl rfl dL_law__669 rfl ?_
  refine V_iload 672 1 rfl dL_law__670 rfl ?_
  refine V_iconst 673 (2) rfl dL_law__672 rfl ?_
  refine V_iadd 674 dL_law__673 rfl ?_
  refine V_rw (nI_add (9 * i) 2) ?_
  refine V_sld 675 (sx G i 2) rfl (vp_in_nI (by omega) (by omega)) dL_law__674 rfl ?_
  refine V_callV (K' := 0) (S' := 0) 678 69 11 2 [.int (sx G i 1), .int (sx G i 2)] mkX11_ground lkL_148 (by decide) rfl rfl (by decide) rfl (Nat.le_of_ble_eq_true rfl) (by omega) (by omega) (Nat.le_of_ble_eq_true rfl) rfl rfl dL_law__675 rfl (tM_ground (d := d + 1) hM1 hS (HR.i (fun I2 w2 hM2 hg2 ht2 hw2 => ?_)))
  refine Kq_i (k' := (k + 8)) (sl' := (sl + 48)) rfl rfl ?_
  have hC2 := hC1.rf hg2
  refine V_istore 680 [(6, .int w2), (5, .int kk), (4, .int (nI (9 * i))), (3, rf G 102), (2, rf G 69), (1, rf G 0), (0, .ref (g_s G))] (by decide) rfl dL_law__678 rfl ?_
  refine V_aload_n 681 4 rfl _ rfl rfl dL_law__680 rfl ?_
  refine V_callV (K' := 0) (S' := 0) 684 69 11 0 [] mkX11_thrown lkL_118 (by decide) rfl rfl (by decide) rfl (Nat.le_of_ble_eq_true rfl) (by omega) (by omega) (Nat.le_of_ble_eq_true rfl) rfl rfl dL_law__681 rfl (c_X11_thrown ?_)
  refine Kq_i (k' := (k + 8)) (sl' := (sl + 48)) rfl rfl ?_
  refine V_rw (ht2.trans ekk.symm) ?_
  refine V_iload 686 1 rfl dL_law__684 rfl ?_
  refine V_icmp_eq 691 689 rfl dL_law__686 rfl (fun c686 => ?_) (fun c686 => absurd rfl c686)
  refine V_iload 693 1 rfl dL_law__691 rfl ?_
  refine V_if_ne 708 696 rfl dL_law__693 rfl (fun c693 => ?_) (fun c693 => ?_)
  · refine V_goto 2352 rfl dL_law__708 ?_
    exact V_lv [2, 3, 4, 5, 6] rfl (nd _ _ _ _ _ _ (by omega) (by omega) (SI_aft hS _) hC2 hM2)
  · refine V_aload_n 697 3 rfl _ rfl rfl dL_law__696 rfl ?_
    refine V_iconst 698 (0) rfl dL_law__697 rfl ?_
    refine V_lald 699 102 1 (J1 102 0) rfl (vp_in_nI (n := 0) (N := 1) (by decide) (by decide)) rfl (by decide) dL_law__698 rfl ?_
    refine V_iload 701 0 rfl dL_law__699 rfl ?_
    refine V_i2l 702 dL_law__701 rfl ?_
    refine V_lcmp 703 dL_law__702 rfl ?_
    have hz0 : lg_cmp (J1 102 0) w2.toInt64 = 0 := by
      obtain ⟨v, ev⟩ := th0 (cd := 2) (by decide) (by decide) (ekk.symm.trans (by first | exact c693 | exact Classical.not_not.mp c693))
      exact lg_eq (by rw [hw2 v ev]; exact hJ1 v ev)
    refine V_if_eq 708 706 rfl dL_law__703 rfl (fun c703 => ?_) (fun c703 => absurd hz0 c703)
    refine V_goto 2352 rfl dL_law__708 ?_
    exact V_lv [2, 3, 4, 5, 6] rfl (nd _ _ _ _ _ _ (by omega) (by omega) (SI_aft hS _) hC2 hM2)
theorem lw_man {G : Gx} {d : Nat} {I : FI} {R : FR} {J : FJ} {s : SG} {i k sl : Nat} (hX : SC I R s) (hM : SM I R s) (hS : SI s) (hL : 9 * i + 9 ≤ g_L G) (hL2 : g_L G ≤ 4608) (hk : k ≤ 1000 + 8 * i) (hsl : sl ≤ 100000 + 48 * i) (nd : ∀ k' sl' s' I' R' J', k' ≤ 1008 + 8 * i → sl' ≤ 100048 + 48 * i → SI s' → SC I' R' s' → SM I' R' s' → V G mL_law_ (d + 902) 601024 7293034 k' sl' 2352 (LV G i) [] 103 I' R' J' QL) : V G mL_law_ (d + 902) 601024 7293034 k sl 711 (LV G i) [] 103 I R J QL := by
  refine V_aload_n 712 3 rfl _ rfl rfl dL_law__711 rfl ?_
  refine V_aload_n 713 4 rfl _ rfl rfl dL_law__712 rfl ?_
  refine V_iload 715 0 rfl dL_law__713 rfl ?_
  refine V_iconst 716 (1) rfl dL_law__715 rfl ?_
  refine V_iadd 717 dL_law__716 rfl ?_
  refine V_rw (nI_add (9 * i) 1) ?_
  refine V_sld 718 (sx G i 1) rfl (vp_in_nI (by omega) (by omega)) dL_law__717 rfl ?_
  refine V_aload_n 719 4 rfl _ rfl rfl dL_law__718 rfl ?_
  refine V_iload 721 0 rfl dL_law__719 rfl ?_
  refine V_iconst 722 (2) rfl dL_law__721 rfl ?_
  refine V_iadd 723 dL_law__722 rfl ?_
  refine V_rw (nI_add (9 * i) 2) ?_
  refine V_sld 724 (sx G i 2) rfl (vp_in_nI (by omega) (by omega)) dL_law__723 rfl ?_
  refine V_aload_n 725 1 rfl _ rfl rfl dL_law__724 rfl ?_
  refine V_callSw (K' := 8) (S' := 48) 728 4 [rf G 0, .int (sx G i 1), .int (sx G i 2), rf G 102] mkL_man lkL_149 rfl (Nat.le_of_ble_eq_true rfl) (by omega) (by omega) (Nat.le_of_ble_eq_true rfl) rfl rfl dL_law__725 rfl (h_man (d := d) (x := qT_man s (sx G i 1) (sx G i 2)) qk_man (fun Q' h => tC_man hX hS h) (fun I1 R1 J1 hC1 hF1 hJ1 => ?_))
  refine Kq_i (k' := (k + 8)) (sl' := (sl + 48)) rfl rfl ?_
  have hM1 := hM.cl hF1
  refine V_topi (fun kk ekk => ?_)
  refine V_istore 730 [(5, .int kk), (4, .int (nI (9 * i))), (3, rf G 102), (2, rf G 69), (1, rf G 0), (0, .ref (g_s G))] (by decide) rfl dL_law__728 rfl ?_
  refine V_aload_n 731 3 rfl _ rfl rfl dL_law__730 rfl ?_
  refine V_aload_n 732 5 rfl _ rfl rfl dL_law__731 rfl ?_
  refine V_iload 734 1 rfl dL_law__732 rfl ?_
  refine V_iconst 735 (1) rfl dL_law__734 rfl ?_
  refine V_iadd 736 dL_law__735 rfl ?_
  refine V_rw (nI_add (9 * i) 1) ?_
  refine V_sld 737 (sx G i 1) rfl (vp_in_nI (by omega) (by omega)) dL_law__736 rfl ?_
  refine V_aload_n 738 5 rfl _ rfl rfl dL_law__737 rfl ?_
  refine V_iload 740 1 rfl dL_law__738 rfl ?_
  refine V_iconst 741 (2) rfl dL_law__740 rfl ?_
  refine V_iadd 742 dL_law__741 rfl ?_
  refine V_rw (nI_add (9 * i) 2) ?_
  refine V_sld 743 (sx G i 2) rfl (vp_in_nI (by omega) (by omega)) dL_law__742 rfl ?_
  refine V_callV (K' := 0) (S' := 0) 746 69 11 2 [.int (sx G i 1), .int (sx G i 2)] mkX11_man lkL_151 (by decide) rfl rfl (by decide) rfl (Nat.le_of_ble_eq_true rfl) (by omega) (by omega) (Nat.le_of_ble_eq_true rfl) rfl rfl dL_law__743 rfl (tM_man (d := d + 1) hM1 hS (HR.i (fun I2 w2 hM2 hg2 ht2 hw2 => ?_)))
  refine Kq_i (k' := (k + 8)) (sl' := (sl + 48)) rfl rfl ?_
  have hC2 := hC1.rf hg2
  refine V_istore 748 [(6, .int w2), (5, .int kk), (4, .int (nI (9 * i))), (3, rf G 102), (2, rf G 69), (1, rf G 0), (0, .ref (g_s G))] (by decide) rfl dL_law__746 rfl ?_
  refine V_aload_n 749 4 rfl _ rfl rfl dL_law__748 rfl ?_
  refine V_callV (K' := 0) (S' := 0) 752 69 11 0 [] mkX11_thrown lkL_118 (by decide) rfl rfl (by decide) rfl (Nat.le_of_ble_eq_true rfl) (by omega) (by omega) (Nat.le_of_ble_eq_true rfl) rfl rfl dL_law__749 rfl (c_X11_thrown ?_)
  refine Kq_i (k' := (k + 8)) (sl' := (sl + 48)) rfl rfl ?_
  refine V_rw (ht2.trans ekk.symm) ?_
  refine V_iload 754 1 rfl dL_law__752 rfl ?_
  refine V_icmp_eq 759 757 rfl dL_law__754 rfl (fun c754 => ?_) (fun c754 => absurd rfl c754)
  refine V_iload 761 1 rfl dL_law__759 rfl ?_
  refine V_if_ne 776 764 rfl dL_law__761 rfl (fun c761 => ?_) (fun c761 => ?_)
  · refine V_goto 2352 rfl dL_law__776 ?_
    exact V_lv [2, 3, 4, 5, 6] rfl (nd _ _ _ _ _ _ (by omega) (by omega) (SI_aft hS _) hC2 hM2)
  · refine V_aload_n 765 3 rfl _ rfl rfl dL_law__764 rfl ?_
    refine V_iconst 766 (0) rfl dL_law__765 rfl ?_
    refine V_lald 767 102 1 (J1 102 0) rfl (vp_in_nI (n := 0) (N := 1) (by decide) (by decide)) rfl (by decide) dL_law__766 rfl ?_
    refine V_iload 769 0 rfl dL_law__767 rfl ?_
    refine V_i2l 770 dL_law__769 rfl ?_
    refine V_lcmp 771 dL_law__770 rfl ?_
    have hz0 : lg_cmp (J1 102 0) w2.toInt64 = 0 := by
      obtain ⟨v, ev⟩ := th0 (cd := 2) (by decide) (by decide) (ekk.symm.trans (by first | exact c761 | exact Classical.not_not.mp c761))
      exact lg_eq (by rw [hw2 v ev]; exact hJ1 v ev)
    refine V_if_eq 776 774 rfl dL_law__771 rfl (fun c771 => ?_) (fun c771 => absurd hz0 c771)
    refine V_goto 2352 rfl dL_law__776 ?_
    exact V_lv [2, 3, 4, 5, 6] rfl (nd _ _ _ _ _ _ (by omega) (by omega) (SI_aft hS _) hC2 hM2)
theorem lw_sea {G : Gx} {d : Nat} {I : FI} {R : FR} {J : FJ} {s : SG} {i k sl : Nat} (hX : SC I R s) (hM : SM I R s) (hS : SI s) (hL : 9 * i + 9 ≤ g_L G) (hL2 : g_L G ≤ 4608) (hk : k ≤ 1000 + 8 * i) (hsl : sl ≤ 100000 + 48 * i) (nd : ∀ k' sl' s' I' R' J', k' ≤ 1008 + 8 * i → sl' ≤ 100048 + 48 * i → SI s' → SC I' R' s' → SM I' R' s' → V G mL_law_ (d + 902) 601024 7293034 k' sl' 2352 (LV G i) [] 103 I' R' J' QL) : V G mL_law_ (d + 902) 601024 7293034 k sl 779 (LV G i) [] 103 I R J QL := by
  refine V_aload_n 780 3 rfl _ rfl rfl dL_law__779 rfl ?_
  refine V_aload_n 781 4 rfl _ rfl rfl dL_law__780 rfl ?_
  refine V_iload 783 0 rfl dL_law__781 rfl ?_
  refine V_iconst 784 (1) rfl dL_law__783 rfl ?_
  refine V_iadd 785 dL_law__784 rfl ?_
  refine V_rw (nI_add (9 * i) 1) ?_
  refine V_sld 786 (sx G i 1) rfl (vp_in_nI (by omega) (by omega)) dL_law__785 rfl ?_
  refine V_aload_n 787 1 rfl _ rfl rfl dL_law__786 rfl ?_
  refine V_callSw (K' := 8) (S' := 48) 790 3 [rf G 0, .int (sx G i 1), rf G 102] mkL_sea lkL_152 rfl (Nat.le_of_ble_eq_true rfl) (by omega) (by omega) (Nat.le_of_ble_eq_true rfl) rfl rfl dL_law__787 rfl (h_sea (d := d) (x := qT_sea s (sx G i 1)) qk_sea (fun Q' h => tC_sea hX hS h) (fun I1 R1 J1 hC1 hF1 hJ1 => ?_))
  refine Kq_i (k' := (k + 8)) (sl' := (sl + 48)) rfl rfl ?_
  have hM1 := hM.cl hF1
  refine V_topi (fun kk ekk => ?_)
  refine V_istore 792 [(5, .int kk), (4, .int (nI (9 * i))), (3, rf G 102), (2, rf G 69), (1, rf G 0), (0, .ref (g_s G))] (by decide) rfl dL_law__790 rfl ?_
  refine V_aload_n 793 3 rfl _ rfl rfl dL_law__792 rfl ?_
  refine V_aload_n 794 5 rfl _ rfl rfl dL_law__793 rfl ?_
  refine V_iload 796 1 rfl dL_law__794 rfl ?_
  refine V_iconst 797 (1) rfl dL_law__796 rfl ?_
  refine V_iadd 798 dL_law__797 rfl ?_
  refine V_rw (nI_add (9 * i) 1) ?_
  refine V_sld 799 (sx G i 1) rfl (vp_in_nI (by omega) (by omega)) dL_law__798 rfl ?_
  refine V_callV (K' := 0) (S' := 0) 802 69 11 1 [.int (sx G i 1)] mkX11_sea lkL_154 (by decide) rfl rfl (by decide) rfl (Nat.le_of_ble_eq_true rfl) (by omega) (by omega) (Nat.le_of_ble_eq_true rfl) rfl rfl dL_law__799 rfl (tM_sea (d := d + 1) hM1 hS (HR.i (fun I2 w2 hM2 hg2 ht2 hw2 => ?_)))
  refine Kq_i (k' := (k + 8)) (sl' := (sl + 48)) rfl rfl ?_
  have hC2 := hC1.rf hg2
  refine V_istore 804 [(6, .int w2), (5, .int kk), (4, .int (nI (9 * i))), (3, rf G 102), (2, rf G 69), (1, rf G 0), (0, .ref (g_s G))] (by decide) rfl dL_law__802 rfl ?_
  refine V_aload_n 805 4 rfl _ rfl rfl dL_law__804 rfl ?_
  refine V_callV (K' := 0) (S' := 0) 808 69 11 0 [] mkX11_thrown lkL_118 (by decide) rfl rfl (by decide) rfl (Nat.le_of_ble_eq_true rfl) (by omega) (by omega) (Nat.le_of_ble_eq_true rfl) rfl rfl dL_law__805 rfl (c_X11_thrown ?_)
  refine Kq_i (k' := (k + 8)) (sl' := (sl + 48)) rfl rfl ?_
  refine V_rw (ht2.trans ekk.symm) ?_
  refine V_iload 810 1 rfl dL_law__808 rfl ?_
  refine V_icmp_eq 815 813 rfl dL_law__810 rfl (fun c810 => ?_) (fun c810 => absurd rfl c810)
  refine V_iload 817 1 rfl dL_law__815 rfl ?_
  refine V_if_ne 832 820 rfl dL_law__817 rfl (fun c817 => ?_) (fun c817 => ?_)
  · refine V_goto 2352 rfl dL_law__832 ?_
    exact V_lv [2, 3, 4, 5, 6] rfl (nd _ _ _ _ _ _ (by omega) (by omega) (SI_aft hS _) hC2 hM2)
  · refine V_aload_n 821 3 rfl _ rfl rfl dL_law__820 rfl ?_
    refine V_iconst 822 (0) rfl dL_law__821 rfl ?_
    refine V_lald 823 102 1 (J1 102 0) rfl (vp_in_nI (n := 0) (N := 1) (by decide) (by decide)) rfl (by decide) dL_law__822 rfl ?_
    refine V_iload 825 0 rfl dL_law__823 rfl ?_
    refine V_i2l 826 dL_law__825 rfl ?_
    refine V_lcmp 827 dL_law__826 rfl ?_
    have hz0 : lg_cmp (J1 102 0) w2.toInt64 = 0 := by
      obtain ⟨v, ev⟩ := th0 (cd := 1) (by decide) (by decide) (ekk.symm.trans (by first | exact c817 | exact Classical.not_not.mp c817))
      exact lg_eq (by rw [hw2 v ev]; exact hJ1 v ev)
    refine V_if_eq 832 830 rfl dL_law__827 rfl (fun c827 => ?_) (fun c827 => absurd hz0 c827)
    refine V_goto 2352 rfl dL_law__832 ?_
    exact V_lv [2, 3, 4, 5, 6] rfl (nd _ _ _ _ _ _ (by omega) (by omega) (SI_aft hS _) hC2 hM2)
theorem lw_would {G : Gx} {d : Nat} {I : FI} {R : FR} {J : FJ} {s : SG} {i k sl : Nat} (hX : SC I R s) (hM : SM I R s) (hS : SI s) (hL : 9 * i + 9 ≤ g_L G) (hL2 : g_L G ≤ 4608) (hk : k ≤ 1000 + 8 * i) (hsl : sl ≤ 100000 + 48 * i) (nd : ∀ k' sl' s' I' R' J', k' ≤ 1008 + 8 * i → sl' ≤ 100048 + 48 * i → SI s' → SC I' R' s' → SM I' R' s' → V G mL_law_ (d + 902) 601024 7293034 k' sl' 2352 (LV G i) [] 103 I' R' J' QL) : V G mL_law_ (d + 902) 601024 7293034 k sl 835 (LV G i) [] 103 I R J QL := by
  refine V_aload_n 836 3 rfl _ rfl rfl dL_law__835 rfl ?_
  refine V_aload_n 837 4 rfl _ rfl rfl dL_law__836 rfl ?_
  refine V_iload 839 0 rfl dL_law__837 rfl ?_
  refine V_iconst 840 (1) rfl dL_law__839 rfl ?_
  refine V_iadd 841 dL_law__840 rfl ?_
  refine V_rw (nI_add (9 * i) 1) ?_
  refine V_sld 842 (sx G i 1) rfl (vp_in_nI (by omega) (by omega)) dL_law__841 rfl ?_
  refine V_aload_n 843 4 rfl _ rfl rfl dL_law__842 rfl ?_
  refine V_iload 845 0 rfl dL_law__843 rfl ?_
  refine V_iconst 846 (2) rfl dL_law__845 rfl ?_
  refine V_iadd 847 dL_law__846 rfl ?_
  refine V_rw (nI_add (9 * i) 2) ?_
  refine V_sld 848 (sx G i 2) rfl (vp_in_nI (by omega) (by omega)) dL_law__847 rfl ?_
  refine V_aload_n 849 4 rfl _ rfl rfl dL_law__848 rfl ?_
  refine V_iload 851 0 rfl dL_law__849 rfl ?_
  refine V_iconst 852 (3) rfl dL_law__851 rfl ?_
  refine V_iadd 853 dL_law__852 rfl ?_
  refine V_rw (nI_add (9 * i) 3) ?_
  refine V_sld 854 (sx G i 3) rfl (vp_in_nI (by omega) (by omega)) dL_law__853 rfl ?_
  refine V_aload_n 855 4 rfl _ rfl rfl dL_law__854 rfl ?_
  refine V_iload 857 0 rfl dL_law__855 rfl ?_
  refine V_iconst 858 (4) rfl dL_law__857 rfl ?_
  refine V_iadd 859 dL_law__858 rfl ?_
  refine V_rw (nI_add (9 * i) 4) ?_
  refine V_sld 860 (sx G i 4) rfl (vp_in_nI (by omega) (by omega)) dL_law__859 rfl ?_
  refine V_aload_n 861 4 rfl _ rfl rfl dL_law__860 rfl ?_
  refine V_iload 863 0 rfl dL_law__861 rfl ?_
  refine V_iconst 864 (5) rfl dL_law__863 rfl ?_
  refine V_iadd 865 dL_law__864 rfl ?_
  refine V_rw (nI_add (9 * i) 5) ?_
  refine V_sld 866 (sx G i 5) rfl (vp_in_nI (by omega) (by omega)) dL_law__865 rfl ?_
  refine V_aload_n 867 4 rfl _ rfl rfl dL_law__866 rfl ?_
  refine V_iload 869 0 rfl dL_law__867 rfl ?_
  refine V_bipush 871 (6) rfl dL_law__869 rfl ?_
  refine V_iadd 872 dL_law__871 rfl ?_
  refine V_rw (nI_add (9 * i) 6) ?_
  refine V_sld 873 (sx G i 6) rfl (vp_in_nI (by omega) (by omega)) dL_law__872 rfl ?_
  refine V_aload_n 874 4 rfl _ rfl rfl dL_law__873 rfl ?_
  refine V_iload 876 0 rfl dL_law__874 rfl ?_
  refine V_bipush 878 (7) rfl dL_law__876 rfl ?_
  refine V_iadd 879 dL_law__878 rfl ?_
  refine V_rw (nI_add (9 * i) 7) ?_
  refine V_sld 880 (sx G i 7) rfl (vp_in_nI (by omega) (by omega)) dL_law__879 rfl ?_
  refine V_aload_n 881 4 rfl _ rfl rfl dL_law__880 rfl ?_
  refine V_iload 883 0 rfl dL_law__881 rfl ?_
  refine V_bipush 885 (8) rfl dL_law__883 rfl ?_
  refine V_iadd 886 dL_law__885 rfl ?_
  refine V_rw (nI_add (9 * i) 8) ?_
  refine V_sld 887 (sx G i 8) rfl (vp_in_nI (by omega) (by omega)) dL_law__886 rfl ?_
  refine V_aload_n 888 1 rfl _ rfl rfl dL_law__887 rfl ?_
  refine V_callSw (K' := 8) (S' := 48) 891 10 [rf G 0, .int (sx G i 1), .int (sx G i 2), .int (sx G i 3), .int (sx G i 4), .int (sx G i 5), .int (sx G i 6), .int (sx G i 7), .int (sx G i 8), rf G 102] mkL_would lkL_155 rfl (Nat.le_of_ble_eq_true rfl) (by omega) (by omega) (Nat.le_of_ble_eq_true rfl) rfl rfl dL_law__888 rfl (h_would (d := d) (x := qT_would s (sx G i 1) (sx G i 2) (sx G i 3) (sx G i 4) (sx G i 5) (sx G i 6) (sx G i 7) (sx G i 8)) qk_would (fun Q' h => tC_would hX hS h) (fun I1 R1 J1 hC1 hF1 hJ1 => ?_))
  refine Kq_i (k' := (k + 8)) (sl' := (sl + 48)) rfl rfl ?_
  have hM1 := hM.cl hF1
  refine V_topi (fun kk ekk => ?_)
  refine V_istore 893 [(5, .int kk), (4, .int (nI (9 * i))), (3, rf G 102), (2, rf G 69), (1, rf G 0), (0, .ref (g_s G))] (by decide) rfl dL_law__891 rfl ?_
  refine V_aload_n 894 3 rfl _ rfl rfl dL_law__893 rfl ?_
  refine V_aload_n 895 5 rfl _ rfl rfl dL_law__894 rfl ?_
  refine V_iload 897 1 rfl dL_law__895 rfl ?_
  refine V_iconst 898 (1) rfl dL_law__897 rfl ?_
  refine V_iadd 899 dL_law__898 rfl ?_
  refine V_rw (nI_add (9 * i) 1) ?_
  refine V_sld 900 (sx G i 1) rfl (vp_in_nI (by omega) (by omega)) dL_law__899 rfl ?_
  refine V_aload_n 901 5 rfl _ rfl rfl dL_law__900 rfl ?_
  refine V_iload 903 1 rfl dL_law__901 rfl ?_
  refine V_iconst 904 (2) rfl dL_law__903 rfl ?_
  refine V_iadd 905 dL_law__904 rfl ?_
  refine V_rw (nI_add (9 * i) 2) ?_
  refine V_sld 906 (sx G i 2) rfl (vp_in_nI (by omega) (by omega)) dL_law__905 rfl ?_
  refine V_aload_n 907 5 rfl _ rfl rfl dL_law__906 rfl ?_
  refine V_iload 909 1 rfl dL_law__907 rfl ?_
  refine V_iconst 910 (3) rfl dL_law__909 rfl ?_
  refine V_iadd 911 dL_law__910 rfl ?_
  refine V_rw (nI_add (9 * i) 3) ?_
  refine V_sld 912 (sx G i 3) rfl (vp_in_nI (by omega) (by omega)) dL_law__911 rfl ?_
  refine V_aload_n 913 5 rfl _ rfl rfl dL_law__912 rfl ?_
  refine V_iload 915 1 rfl dL_law__913 rfl ?_
  refine V_iconst 916 (4) rfl dL_law__915 rfl ?_
  refine V_iadd 917 dL_law__916 rfl ?_
  refine V_rw (nI_add (9 * i) 4) ?_
  refine V_sld 918 (sx G i 4) rfl (vp_in_nI (by omega) (by omega)) dL_law__917 rfl ?_
  refine V_aload_n 919 5 rfl _ rfl rfl dL_law__918 rfl ?_
  refine V_iload 921 1 rfl dL_law__919 rfl ?_
  refine V_iconst 922 (5) rfl dL_law__921 rfl ?_
  refine V_iadd 923 dL_law__922 rfl ?_
  refine V_rw (nI_add (9 * i) 5) ?_
  refine V_sld 924 (sx G i 5) rfl (vp_in_nI (by omega) (by omega)) dL_law__923 rfl ?_
  refine V_aload_n 925 5 rfl _ rfl rfl dL_law__924 rfl ?_
  refine V_iload 927 1 rfl dL_law__925 rfl ?_
  refine V_bipush 929 (6) rfl dL_law__927 rfl ?_
  refine V_iadd 930 dL_law__929 rfl ?_
  refine V_rw (nI_add (9 * i) 6) ?_
  refine V_sld 931 (sx G i 6) rfl (vp_in_nI (by omega) (by omega)) dL_law__930 rfl ?_
  refine V_aload_n 932 5 rfl _ rfl rfl dL_law__931 rfl ?_
  refine V_iload 934 1 rfl dL_law__932 rfl ?_
  refine V_bipush 936 (7) rfl dL_law__934 rfl ?_
  refine V_iadd 937 dL_law__936 rfl ?_
  refine V_rw (nI_add (9 * i) 7) ?_
  refine V_sld 938 (sx G i 7) rfl (vp_in_nI (by omega) (by omega)) dL_law__937 rfl ?_
  refine V_aload_n 939 5 rfl _ rfl rfl dL_law__938 rfl ?_
  refine V_iload 941 1 rfl dL_law__939 rfl ?_
  refine V_bipush 943 (8) rfl dL_law__941 rfl ?_
  refine V_iadd 944 dL_law__943 rfl ?_
  refine V_rw (nI_add (9 * i) 8) ?_
  refine V_sld 945 (sx G i 8) rfl (vp_in_nI (by omega) (by omega)) dL_law__944 rfl ?_
  refine V_callV (K' := 0) (S' := 0) 948 69 11 8 [.int (sx G i 1), .int (sx G i 2), .int (sx G i 3), .int (sx G i 4), .int (sx G i 5), .int (sx G i 6), .int (sx G i 7), .int (sx G i 8)] mkX11_would lkL_158 (by decide) rfl rfl (by decide) rfl (Nat.le_of_ble_eq_true rfl) (by omega) (by omega) (Nat.le_of_ble_eq_true rfl) rfl rfl dL_law__945 rfl (tM_would (d := d + 1) hM1 hS (HR.i (fun I2 w2 hM2 hg2 ht2 hw2 => ?_)))
  refine Kq_i (k' := (k + 8)) (sl' := (sl + 48)) rfl rfl ?_
  have hC2 := hC1.rf hg2
  refine V_istore 950 [(6, .int w2), (5, .int kk), (4, .int (nI (9 * i))), (3, rf G 102), (2, rf G 69), (1, rf G 0), (0, .ref (g_s G))] (by decide) rfl dL_law__948 rfl ?_
  refine V_aload_n 951 4 rfl _ rfl rfl dL_law__950 rfl ?_
  refine V_callV (K' := 0) (S' := 0) 954 69 11 0 [] mkX11_thrown lkL_118 (by decide) rfl rfl (by decide) rfl (Nat.le_of_ble_eq_true rfl) (by omega) (by omega) (Nat.le_of_ble_eq_true rfl) rfl rfl dL_law__951 rfl (c_X11_thrown ?_)
  refine Kq_i (k' := (k + 8)) (sl' := (sl + 48)) rfl rfl ?_
  refine V_rw (ht2.trans ekk.symm) ?_
  refine V_iload 956 1 rfl dL_law__954 rfl ?_
  refine V_icmp_eq 961 959 rfl dL_law__956 rfl (fun c956 => ?_) (fun c956 => absurd rfl c956)
  refine V_iload 963 1 rfl dL_law__961 rfl ?_
  refine V_if_ne 978 966 rfl dL_law__963 rfl (fun c963 => ?_) (fun c963 => ?_)
  · refine V_goto 2352 rfl dL_law__978 ?_
    exact V_lv [2, 3, 4, 5, 6] rfl (nd _ _ _ _ _ _ (by omega) (by omega) (SI_aft hS _) hC2 hM2)
  · refine V_aload_n 967 3 rfl _ rfl rfl dL_law__966 rfl ?_
    refine V_iconst 968 (0) rfl dL_law__967 rfl ?_
    refine V_lald 969 102 1 (J1 102 0) rfl (vp_in_nI (n := 0) (N := 1) (by decide) (by decide)) rfl (by decide) dL_law__968 rfl ?_
    refine V_iload 971 0 rfl dL_law__969 rfl ?_
    refine V_i2l 972 dL_law__971 rfl ?_
    refine V_lcmp 973 dL_law__972 rfl ?_
    have hz0 : lg_cmp (J1 102 0) w2.toInt64 = 0 := by
      obtain ⟨v, ev⟩ := th0 (cd := 1) (by decide) (by decide) (ekk.symm.trans (by first | exact c963 | exact Classical.not_not.mp c963))
      exact lg_eq (by rw [hw2 v ev]; exact hJ1 v ev)
    refine V_if_eq 978 976 rfl dL_law__973 rfl (fun c973 => ?_) (fun c973 => absurd hz0 c973)
    refine V_goto 2352 rfl dL_law__978 ?_
    exact V_lv [2, 3, 4, 5, 6] rfl (nd _ _ _ _ _ _ (by omega) (by omega) (SI_aft hS _) hC2 hM2)
theorem lw_ahead {G : Gx} {d : Nat} {I : FI} {R : FR} {J : FJ} {s : SG} {i k sl : Nat} (hX : SC I R s) (hM : SM I R s) (hS : SI s) (hL : 9 * i + 9 ≤ g_L G) (hL2 : g_L G ≤ 4608) (hk : k ≤ 1000 + 8 * i) (hsl : sl ≤ 100000 + 48 * i) (nd : ∀ k' sl' s' I' R' J', k' ≤ 1008 + 8 * i → sl' ≤ 100048 + 48 * i → SI s' → SC I' R' s' → SM I' R' s' → V G mL_law_ (d + 902) 601024 7293034 k' sl' 2352 (LV G i) [] 103 I' R' J' QL) : V G mL_law_ (d + 902) 601024 7293034 k sl 981 (LV G i) [] 103 I R J QL := by
  refine V_aload_n 982 3 rfl _ rfl rfl dL_law__981 rfl ?_
  refine V_aload_n 983 4 rfl _ rfl rfl dL_law__982 rfl ?_
  refine V_iload 985 0 rfl dL_law__983 rfl ?_
  refine V_iconst 986 (1) rfl dL_law__985 rfl ?_
  refine V_iadd 987 dL_law__986 rfl ?_
  refine V_rw (nI_add (9 * i) 1) ?_
  refine V_sld 988 (sx G i 1) rfl (vp_in_nI (by omega) (by omega)) dL_law__987 rfl ?_
  refine V_aload_n 989 4 rfl _ rfl rfl dL_law__988 rfl ?_
  refine V_iload 991 0 rfl dL_law__989 rfl ?_
  refine V_iconst 992 (2) rfl dL_law__991 rfl ?_
  refine V_iadd 993 dL_law__992 rfl ?_
  refine V_rw (nI_add (9 * i) 2) ?_
  refine V_sld 994 (sx G i 2) rfl (vp_in_nI (by omega) (by omega)) dL_law__993 rfl ?_
  refine V_aload_n 995 1 rfl _ rfl rfl dL_law__994 rfl ?_
  refine V_callSw (K' := 8) (S' := 48) 998 4 [rf G 0, .int (sx G i 1), .int (sx G i 2), rf G 102] mkL_ahead lkL_159 rfl (Nat.le_of_ble_eq_true rfl) (by omega) (by omega) (Nat.le_of_ble_eq_true rfl) rfl rfl dL_law__995 rfl (h_ahead (d := d) (x := qT_ahead s (sx G i 1) (sx G i 2)) qk_ahead (fun Q' h => tC_ahead hX hS h) (fun I1 R1 J1 hC1 hF1 hJ1 => ?_))
  refine Kq_i (k' := (k + 8)) (sl' := (sl + 48)) rfl rfl ?_
  have hM1 := hM.cl hF1
  refine V_topi (fun kk ekk => ?_)
  refine V_istore 1000 [(5, .int kk), (4, .int (nI (9 * i))), (3, rf G 102), (2, rf G 69), (1, rf G 0), (0, .ref (g_s G))] (by decide) rfl dL_law__998 rfl ?_
  refine V_aload_n 1001 3 rfl _ rfl rfl dL_law__1000 rfl ?_
  refine V_aload_n 1002 5 rfl _ rfl rfl dL_law__1001 rfl ?_
  refine V_iload 1004 1 rfl dL_law__1002 rfl ?_
  refine V_iconst 1005 (1) rfl dL_law__1004 rfl ?_
  refine V_iadd 1006 dL_law__1005 rfl ?_
  refine V_rw (nI_add (9 * i) 1) ?_
  refine V_sld 1007 (sx G i 1) rfl (vp_in_nI (by omega) (by omega)) dL_law__1006 rfl ?_
  refine V_aload_n 1008 5 rfl _ rfl rfl dL_law__1007 rfl ?_
  refine V_iload 1010 1 rfl dL_law__1008 rfl ?_
  refine V_iconst 1011 (2) rfl dL_law__1010 rfl ?_
  refine V_iadd 1012 dL_law__1011 rfl ?_
  refine V_rw (nI_add (9 * i) 2) ?_
  refine V_sld 1013 (sx G i 2) rfl (vp_in_nI (by omega) (by omega)) dL_law__1012 rfl ?_
  refine V_callV (K' := 0) (S' := 0) 1016 69 11 2 [.int (sx G i 1), .int (sx G i 2)] mkX11_ahead lkL_161 (by decide) rfl rfl (by decide) rfl (Nat.le_of_ble_eq_true rfl) (by omega) (by omega) (Nat.le_of_ble_eq_true rfl) rfl rfl dL_law__1013 rfl (tM_ahead (d := d + 1) hM1 hS (HR.i (fun I2 w2 hM2 hg2 ht2 hw2 => ?_)))
  refine Kq_i (k' := (k + 8)) (sl' := (sl + 48)) rfl rfl ?_
  have hC2 := hC1.rf hg2
  refine V_istore 1018 [(6, .int w2), (5, .int kk), (4, .int (nI (9 * i))), (3, rf G 102), (2, rf G 69), (1, rf G 0), (0, .ref (g_s G))] (by decide) rfl dL_law__1016 rfl ?_
  refine V_aload_n 1019 4 rfl _ rfl rfl dL_law__1018 rfl ?_
  refine V_callV (K' := 0) (S' := 0) 1022 69 11 0 [] mkX11_thrown lkL_118 (by decide) rfl rfl (by decide) rfl (Nat.le_of_ble_eq_true rfl) (by omega) (by omega) (Nat.le_of_ble_eq_true rfl) rfl rfl dL_law__1019 rfl (c_X11_thrown ?_)
  refine Kq_i (k' := (k + 8)) (sl' := (sl + 48)) rfl rfl ?_
  refine V_rw (ht2.trans ekk.symm) ?_
  refine V_iload 1024 1 rfl dL_law__1022 rfl ?_
  refine V_icmp_eq 1029 1027 rfl dL_law__1024 rfl (fun c1024 => ?_) (fun c1024 => absurd rfl c1024)
  refine V_iload 1031 1 rfl dL_law__1029 rfl ?_
  refine V_if_ne 1046 1034 rfl dL_law__1031 rfl (fun c1031 => ?_) (fun c1031 => ?_)
  · refine V_goto 2352 rfl dL_law__1046 ?_
    exact V_lv [2, 3, 4, 5, 6] rfl (nd _ _ _ _ _ _ (by omega) (by omega) (SI_aft hS _) hC2 hM2)
  · refine V_aload_n 1035 3 rfl _ rfl rfl dL_law__1034 rfl ?_
    refine V_iconst 1036 (0) rfl dL_law__1035 rfl ?_
    refine V_lald 1037 102 1 (J1 102 0) rfl (vp_in_nI (n := 0) (N := 1) (by decide) (by decide)) rfl (by decide) dL_law__1036 rfl ?_
    refine V_iload 1039 0 rfl dL_law__1037 rfl ?_
    refine V_i2l 1040 dL_law__1039 rfl ?_
    refine V_lcmp 1041 dL_law__1040 rfl ?_
    have hz0 : lg_cmp (J1 102 0) w2.toInt64 = 0 := by
      obtain ⟨v, ev⟩ := th0 (cd := 1) (by decide) (by decide) (ekk.symm.trans (by first | exact c1031 | exact Classical.not_not.mp c1031))
      exact lg_eq (by rw [hw2 v ev]; exact hJ1 v ev)
    refine V_if_eq 1046 1044 rfl dL_law__1041 rfl (fun c1041 => ?_) (fun c1041 => absurd hz0 c1041)
    refine V_goto 2352 rfl dL_law__1046 ?_
    exact V_lv [2, 3, 4, 5, 6] rfl (nd _ _ _ _ _ _ (by omega) (by omega) (SI_aft hS _) hC2 hM2)
theorem lw_doom {G : Gx} {d : Nat} {I : FI} {R : FR} {J : FJ} {s : SG} {i k sl : Nat} (hX : SC I R s) (hM : SM I R s) (hS : SI s) (hL : 9 * i + 9 ≤ g_L G) (hL2 : g_L G ≤ 4608) (hk : k ≤ 1000 + 8 * i) (hsl : sl ≤ 100000 + 48 * i) (nd : ∀ k' sl' s' I' R' J', k' ≤ 1008 + 8 * i → sl' ≤ 100048 + 48 * i → SI s' → SC I' R' s' → SM I' R' s' → V G mL_law_ (d + 902) 601024 7293034 k' sl' 2352 (LV G i) [] 103 I' R' J' QL) : V G mL_law_ (d + 902) 601024 7293034 k sl 1049 (LV G i) [] 103 I R J QL := by
  refine V_aload_n 1050 3 rfl _ rfl rfl dL_law__1049 rfl ?_
  refine V_aload_n 1051 4 rfl _ rfl rfl dL_law__1050 rfl ?_
  refine V_iload 1053 0 rfl dL_law__1051 rfl ?_
  refine V_iconst 1054 (1) rfl dL_law__1053 rfl ?_
  refine V_iadd 1055 dL_law__1054 rfl ?_
  refine V_rw (nI_add (9 * i) 1) ?_
  refine V_sld 1056 (sx G i 1) rfl (vp_in_nI (by omega) (by omega)) dL_law__1055 rfl ?_
  refine V_aload_n 1057 1 rfl _ rfl rfl dL_law__1056 rfl ?_
  refine V_callSw (K' := 8) (S' := 48) 1060 3 [rf G 0, .int (sx G i 1), rf G 102] mkL_doom lkL_162 rfl (Nat.le_of_ble_eq_true rfl) (by omega) (by omega) (Nat.le_of_ble_eq_true rfl) rfl rfl dL_law__1057 rfl (h_doom (d := d) (x := qT_doom s (sx G i 1)) qk_doom (fun Q' h => tC_doom hX hS h) (fun I1 R1 J1 hC1 hF1 hJ1 => ?_))
  refine Kq_i (k' := (k + 8)) (sl' := (sl + 48)) rfl rfl ?_
  have hM1 := hM.cl hF1
  refine V_topi (fun kk ekk => ?_)
  refine V_istore 1062 [(5, .int kk), (4, .int (nI (9 * i))), (3, rf G 102), (2, rf G 69), (1, rf G 0), (0, .ref (g_s G))] (by decide) rfl dL_law__1060 rfl ?_
  refine V_aload_n 1063 3 rfl _ rfl rfl dL_law__1062 rfl ?_
  refine V_aload_n 1064 5 rfl _ rfl rfl dL_law__1063 rfl ?_
  refine V_iload 1066 1 rfl dL_law__1064 rfl ?_
  refine V_iconst 1067 (1) rfl dL_law__1066 rfl ?_
  refine V_iadd 1068 dL_law__1067 rfl ?_
  refine V_rw (nI_add (9 * i) 1) ?_
  refine V_sld 1069 (sx G i 1) rfl (vp_in_nI (by omega) (by omega)) dL_law__1068 rfl ?_
  refine V_callV (K' := 0) (S' := 0) 1072 69 11 1 [.int (sx G i 1)] mkX11_doom lkL_164 (by decide) rfl rfl (by decide) rfl (Nat.le_of_ble_eq_true rfl) (by omega) (by omega) (Nat.le_of_ble_eq_true rfl) rfl rfl dL_law__1069 rfl (tM_doom (d := d + 1) hM1 hS (HR.i (fun I2 w2 hM2 hg2 ht2 hw2 => ?_)))
  refine Kq_i (k' := (k + 8)) (sl' := (sl + 48)) rfl rfl ?_
  have hC2 := hC1.rf hg2
  refine V_istore 1074 [(6, .int w2), (5, .int kk), (4, .int (nI (9 * i))), (3, rf G 102), (2, rf G 69), (1, rf G 0), (0, .ref (g_s G))] (by decide) rfl dL_law__1072 rfl ?_
  refine V_aload_n 1075 4 rfl _ rfl rfl dL_law__1074 rfl ?_
  refine V_callV (K' := 0) (S' := 0) 1078 69 11 0 [] mkX11_thrown lkL_118 (by decide) rfl rfl (by decide) rfl (Nat.le_of_ble_eq_true rfl) (by omega) (by omega) (Nat.le_of_ble_eq_true rfl) rfl rfl dL_law__1075 rfl (c_X11_thrown ?_)
  refine Kq_i (k' := (k + 8)) (sl' := (sl + 48)) rfl rfl ?_
  refine V_rw (ht2.trans ekk.symm) ?_
  refine V_iload 1080 1 rfl dL_law__1078 rfl ?_
  refine V_icmp_eq 1085 1083 rfl dL_law__1080 rfl (fun c1080 => ?_) (fun c1080 => absurd rfl c1080)
  refine V_iload 1087 1 rfl dL_law__1085 rfl ?_
  refine V_if_ne 1102 1090 rfl dL_law__1087 rfl (fun c1087 => ?_) (fun c1087 => ?_)
  · refine V_goto 2352 rfl dL_law__1102 ?_
    exact V_lv [2, 3, 4, 5, 6] rfl (nd _ _ _ _ _ _ (by omega) (by omega) (SI_aft hS _) hC2 hM2)
  · refine V_aload_n 1091 3 rfl _ rfl rfl dL_law__1090 rfl ?_
    refine V_iconst 1092 (0) rfl dL_law__1091 rfl ?_
    refine V_lald 1093 102 1 (J1 102 0) rfl (vp_in_nI (n := 0) (N := 1) (by decide) (by decide)) rfl (by decide) dL_law__1092 rfl ?_
    refine V_iload 1095 0 rfl dL_law__1093 rfl ?_
    refine V_i2l 1096 dL_law__1095 rfl ?_
    refine V_lcmp 1097 dL_law__1096 rfl ?_
    have hz0 : lg_cmp (J1 102 0) w2.toInt64 = 0 := by
      obtain ⟨v, ev⟩ := th0 (cd := 1) (by decide) (by decide) (ekk.symm.trans (by first | exact c1087 | exact Classical.not_not.mp c1087))
      exact lg_eq (by rw [hw2 v ev]; exact hJ1 v ev)
    refine V_if_eq 1102 1100 rfl dL_law__1097 rfl (fun c1097 => ?_) (fun c1097 => absurd hz0 c1097)
    refine V_goto 2352 rfl dL_law__1102 ?_
    exact V_lv [2, 3, 4, 5, 6] rfl (nd _ _ _ _ _ _ (by omega) (by omega) (SI_aft hS _) hC2 hM2)
theorem lw_suits {G : Gx} {d : Nat} {I : FI} {R : FR} {J : FJ} {s : SG} {i k sl : Nat} (hX : SC I R s) (hM : SM I R s) (hS : SI s) (hL : 9 * i + 9 ≤ g_L G) (hL2 : g_L G ≤ 4608) (hk : k ≤ 1000 + 8 * i) (hsl : sl ≤ 100000 + 48 * i) (nd : ∀ k' sl' s' I' R' J', k' ≤ 1008 + 8 * i → sl' ≤ 100048 + 48 * i → SI s' → SC I' R' s' → SM I' R' s' → V G mL_law_ (d + 902) 601024 7293034 k' sl' 2352 (LV G i) [] 103 I' R' J' QL) : V G mL_law_ (d + 902) 601024 7293034 k sl 1105 (LV G i) [] 103 I R J QL := by
  refine V_aload_n 1106 3 rfl _ rfl rfl dL_law__1105 rfl ?_
  refine V_aload_n 1107 4 rfl _ rfl rfl dL_law__1106 rfl ?_
  refine V_iload 1109 0 rfl dL_law__1107 rfl ?_
  refine V_iconst 1110 (1) rfl dL_law__1109 rfl ?_
  refine V_iadd 1111 dL_law__1110 rfl ?_
  refine V_rw (nI_add (9 * i) 1) ?_
  refine V_sld 1112 (sx G i 1) rfl (vp_in_nI (by omega) (by omega)) dL_law__1111 rfl ?_
  refine V_aload_n 1113 4 rfl _ rfl rfl dL_law__1112 rfl ?_
  refine V_iload 1115 0 rfl dL_law__1113 rfl ?_
  refine V_iconst 1116 (2) rfl dL_law__1115 rfl ?_
  refine V_iadd 1117 dL_law__1116 rfl ?_
  refine V_rw (nI_add (9 * i) 2) ?_
  refine V_sld 1118 (sx G i 2) rfl (vp_in_nI (by omega) (by omega)) dL_law__1117 rfl ?_
  refine V_aload_n 1119 4 rfl _ rfl rfl dL_law__1118 rfl ?_
  refine V_iload 1121 0 rfl dL_law__1119 rfl ?_
  refine V_iconst 1122 (3) rfl dL_law__1121 rfl ?_
  refine V_iadd 1123 dL_law__1122 rfl ?_
  refine V_rw (nI_add (9 * i) 3) ?_
  refine V_sld 1124 (sx G i 3) rfl (vp_in_nI (by omega) (by omega)) dL_law__1123 rfl ?_
  refine V_aload_n 1125 4 rfl _ rfl rfl dL_law__1124 rfl ?_
  refine V_iload 1127 0 rfl dL_law__1125 rfl ?_
  refine V_iconst 1128 (4) rfl dL_law__1127 rfl ?_
  refine V_iadd 1129 dL_law__1128 rfl ?_
  refine V_rw (nI_add (9 * i) 4) ?_
  refine V_sld 1130 (sx G i 4) rfl (vp_in_nI (by omega) (by omega)) dL_law__1129 rfl ?_
  refine V_aload_n 1131 1 rfl _ rfl rfl dL_law__1130 rfl ?_
  refine V_callSw (K' := 8) (S' := 48) 1134 6 [rf G 0, .int (sx G i 1), .int (sx G i 2), .int (sx G i 3), .int (sx G i 4), rf G 102] mkL_suits lkL_165 rfl (Nat.le_of_ble_eq_true rfl) (by omega) (by omega) (Nat.le_of_ble_eq_true rfl) rfl rfl dL_law__1131 rfl (h_suits (d := d) (x := qT_suits s (sx G i 1) (sx G i 2) (sx G i 3) (sx G i 4)) qk_suits (fun Q' h => tC_suits hX hS h) (fun I1 R1 J1 hC1 hF1 hJ1 => ?_))
  refine Kq_i (k' := (k + 8)) (sl' := (sl + 48)) rfl rfl ?_
  have hM1 := hM.cl hF1
  refine V_topi (fun kk ekk => ?_)
  refine V_istore 1136 [(5, .int kk), (4, .int (nI (9 * i))), (3, rf G 102), (2, rf G 69), (1, rf G 0), (0, .ref (g_s G))] (by decide) rfl dL_law__1134 rfl ?_
  refine V_aload_n 1137 3 rfl _ rfl rfl dL_law__1136 rfl ?_
  refine V_aload_n 1138 5 rfl _ rfl rfl dL_law__1137 rfl ?_
  refine V_iload 1140 1 rfl dL_law__1138 rfl ?_
  refine V_iconst 1141 (1) rfl dL_law__1140 rfl ?_
  refine V_iadd 1142 dL_law__1141 rfl ?_
  refine V_rw (nI_add (9 * i) 1) ?_
  refine V_sld 1143 (sx G i 1) rfl (vp_in_nI (by omega) (by omega)) dL_law__1142 rfl ?_
  refine V_aload_n 1144 5 rfl _ rfl rfl dL_law__1143 rfl ?_
  refine V_iload 1146 1 rfl dL_law__1144 rfl ?_
  refine V_iconst 1147 (2) rfl dL_law__1146 rfl ?_
  refine V_iadd 1148 dL_law__1147 rfl ?_
  refine V_rw (nI_add (9 * i) 2) ?_
  refine V_sld 1149 (sx G i 2) rfl (vp_in_nI (by omega) (by omega)) dL_law__1148 rfl ?_
  refine V_aload_n 1150 5 rfl _ rfl rfl dL_law__1149 rfl ?_
  refine V_iload 1152 1 rfl dL_law__1150 rfl ?_
  refine V_iconst 1153 (3) rfl dL_law__1152 rfl ?_
  refine V_iadd 1154 dL_law__1153 rfl ?_
  refine V_rw (nI_add (9 * i) 3) ?_
  refine V_sld 1155 (sx G i 3) rfl (vp_in_nI (by omega) (by omega)) dL_law__1154 rfl ?_
  refine V_aload_n 1156 5 rfl _ rfl rfl dL_law__1155 rfl ?_
  refine V_iload 1158 1 rfl dL_law__1156 rfl ?_
  refine V_iconst 1159 (4) rfl dL_law__1158 rfl ?_
  refine V_iadd 1160 dL_law__1159 rfl ?_
  refine V_rw (nI_add (9 * i) 4) ?_
  refine V_sld 1161 (sx G i 4) rfl (vp_in_nI (by omega) (by omega)) dL_law__1160 rfl ?_
  refine V_callV (K' := 0) (S' := 0) 1164 69 11 4 [.int (sx G i 1), .int (sx G i 2), .int (sx G i 3), .int (sx G i 4)] mkX11_suits lkL_168 (by decide) rfl rfl (by decide) rfl (Nat.le_of_ble_eq_true rfl) (by omega) (by omega) (Nat.le_of_ble_eq_true rfl) rfl rfl dL_law__1161 rfl (tM_suits (d := d + 1) hM1 hS (HR.i (fun I2 w2 hM2 hg2 ht2 hw2 => ?_)))
  refine Kq_i (k' := (k + 8)) (sl' := (sl + 48)) rfl rfl ?_
  have hC2 := hC1.rf hg2
  refine V_istore 1166 [(6, .int w2), (5, .int kk), (4, .int (nI (9 * i))), (3, rf G 102), (2, rf G 69), (1, rf G 0), (0, .ref (g_s G))] (by decide) rfl dL_law__1164 rfl ?_
  refine V_aload_n 1167 4 rfl _ rfl rfl dL_law__1166 rfl ?_
  refine V_callV (K' := 0) (S' := 0) 1170 69 11 0 [] mkX11_thrown lkL_118 (by decide) rfl rfl (by decide) rfl (Nat.le_of_ble_eq_true rfl) (by omega) (by omega) (Nat.le_of_ble_eq_true rfl) rfl rfl dL_law__1167 rfl (c_X11_thrown ?_)
  refine Kq_i (k' := (k + 8)) (sl' := (sl + 48)) rfl rfl ?_
  refine V_rw (ht2.trans ekk.symm) ?_
  refine V_iload 1172 1 rfl dL_law__1170 rfl ?_
  refine V_icmp_eq 1177 1175 rfl dL_law__1172 rfl (fun c1172 => ?_) (fun c1172 => absurd rfl c1172)
  refine V_iload 1179 1 rfl dL_law__1177 rfl ?_
  refine V_if_ne 1194 1182 rfl dL_law__1179 rfl (fun c1179 => ?_) (fun c1179 => ?_)
  · refine V_goto 2352 rfl dL_law__1194 ?_
    exact V_lv [2, 3, 4, 5, 6] rfl (nd _ _ _ _ _ _ (by omega) (by omega) (SI_aft hS _) hC2 hM2)
  · refine V_aload_n 1183 3 rfl _ rfl rfl dL_law__1182 rfl ?_
    refine V_iconst 1184 (0) rfl dL_law__1183 rfl ?_
    refine V_lald 1185 102 1 (J1 102 0) rfl (vp_in_nI (n := 0) (N := 1) (by decide) (by decide)) rfl (by decide) dL_law__1184 rfl ?_
    refine V_iload 1187 0 rfl dL_law__1185 rfl ?_
    refine V_i2l 1188 dL_law__1187 rfl ?_
    refine V_lcmp 1189 dL_law__1188 rfl ?_
    have hz0 : lg_cmp (J1 102 0) w2.toInt64 = 0 := by
      obtain ⟨v, ev⟩ := th0 (cd := 2) (by decide) (by decide) (ekk.symm.trans (by first | exact c1179 | exact Classical.not_not.mp c1179))
      exact lg_eq (by rw [hw2 v ev]; exact hJ1 v ev)
    refine V_if_eq 1194 1192 rfl dL_law__1189 rfl (fun c1189 => ?_) (fun c1189 => absurd hz0 c1189)
    refine V_goto 2352 rfl dL_law__1194 ?_
    exact V_lv [2, 3, 4, 5, 6] rfl (nd _ _ _ _ _ _ (by omega) (by omega) (SI_aft hS _) hC2 hM2)
theorem lw_hatted {G : Gx} {d : Nat} {I : FI} {R : FR} {J : FJ} {s : SG} {i k sl : Nat} (hX : SC I R s) (hM : SM I R s) (hS : SI s) (hL : 9 * i + 9 ≤ g_L G) (hL2 : g_L G ≤ 4608) (hk : k ≤ 1000 + 8 * i) (hsl : sl ≤ 100000 + 48 * i) (nd : ∀ k' sl' s' I' R' J', k' ≤ 1008 + 8 * i → sl' ≤ 100048 + 48 * i → SI s' → SC I' R' s' → SM I' R' s' → V G mL_law_ (d + 902) 601024 7293034 k' sl' 2352 (LV G i) [] 103 I' R' J' QL) : V G mL_law_ (d + 902) 601024 7293034 k sl 1197 (LV G i) [] 103 I R J QL := by
  refine V_aload_n 1198 3 rfl _ rfl rfl dL_law__1197 rfl ?_
  refine V_aload_n 1199 4 rfl _ rfl rfl dL_law__1198 rfl ?_
  refine V_iload 1201 0 rfl dL_law__1199 rfl ?_
  refine V_iconst 1202 (1) rfl dL_law__1201 rfl ?_
  refine V_iadd 1203 dL_law__1202 rfl ?_
  refine V_rw (nI_add (9 * i) 1) ?_
  refine V_sld 1204 (sx G i 1) rfl (vp_in_nI (by omega) (by omega)) dL_law__1203 rfl ?_
  refine V_aload_n 1205 1 rfl _ rfl rfl dL_law__1204 rfl ?_
  refine V_callSw (K' := 8) (S' := 48) 1208 3 [rf G 0, .int (sx G i 1), rf G 102] mkL_hatted lkL_169 rfl (Nat.le_of_ble_eq_true rfl) (by omega) (by omega) (Nat.le_of_ble_eq_true rfl) rfl rfl dL_law__1205 rfl (h_hatted (d := d) (x := qT_hatted s (sx G i 1)) qk_hatted (fun Q' h => tC_hatted hX hS h) (fun I1 R1 J1 hC1 hF1 hJ1 => ?_))
  refine Kq_i (k' := (k + 8)) (sl' := (sl + 48)) rfl rfl ?_
  have hM1 := hM.cl hF1
  refine V_topi (fun kk ekk => ?_)
  refine V_istore 1210 [(5, .int kk), (4, .int (nI (9 * i))), (3, rf G 102), (2, rf G 69), (1, rf G 0), (0, .ref (g_s G))] (by decide) rfl dL_law__1208 rfl ?_
  refine V_aload_n 1211 3 rfl _ rfl rfl dL_law__1210 rfl ?_
  refine V_aload_n 1212 5 rfl _ rfl rfl dL_law__1211 rfl ?_
  refine V_iload 1214 1 rfl dL_law__1212 rfl ?_
  refine V_iconst 1215 (1) rfl dL_law__1214 rfl ?_
  refine V_iadd 1216 dL_law__1215 rfl ?_
  refine V_rw (nI_add (9 * i) 1) ?_
  refine V_sld 1217 (sx G i 1) rfl (vp_in_nI (by omega) (by omega)) dL_law__1216 rfl ?_
  refine V_callV (K' := 0) (S' := 0) 1220 69 11 1 [.int (sx G i 1)] mkX11_hatted lkL_171 (by decide) rfl rfl (by decide) rfl (Nat.le_of_ble_eq_true rfl) (by omega) (by omega) (Nat.le_of_ble_eq_true rfl) rfl rfl dL_law__1217 rfl (tM_hatted (d := d + 1) hM1 hS (HR.i (fun I2 w2 hM2 hg2 ht2 hw2 => ?_)))
  refine Kq_i (k' := (k + 8)) (sl' := (sl + 48)) rfl rfl ?_
  have hC2 := hC1.rf hg2
  refine V_istore 1222 [(6, .int w2), (5, .int kk), (4, .int (nI (9 * i))), (3, rf G 102), (2, rf G 69), (1, rf G 0), (0, .ref (g_s G))] (by decide) rfl dL_law__1220 rfl ?_
  refine V_aload_n 1223 4 rfl _ rfl rfl dL_law__1222 rfl ?_
  refine V_callV (K' := 0) (S' := 0) 1226 69 11 0 [] mkX11_thrown lkL_118 (by decide) rfl rfl (by decide) rfl (Nat.le_of_ble_eq_true rfl) (by omega) (by omega) (Nat.le_of_ble_eq_true rfl) rfl rfl dL_law__1223 rfl (c_X11_thrown ?_)
  refine Kq_i (k' := (k + 8)) (sl' := (sl + 48)) rfl rfl ?_
  refine V_rw (ht2.trans ekk.symm) ?_
  refine V_iload 1228 1 rfl dL_law__1226 rfl ?_
  refine V_icmp_eq 1233 1231 rfl dL_law__1228 rfl (fun c1228 => ?_) (fun c1228 => absurd rfl c1228)
  refine V_iload 1235 1 rfl dL_law__1233 rfl ?_
  refine V_if_ne 1250 1238 rfl dL_law__1235 rfl (fun c1235 => ?_) (fun c1235 => ?_)
  · refine V_goto 2352 rfl dL_law__1250 ?_
    exact V_lv [2, 3, 4, 5, 6] rfl (nd _ _ _ _ _ _ (by omega) (by omega) (SI_aft hS _) hC2 hM2)
  · refine V_aload_n 1239 3 rfl _ rfl rfl dL_law__1238 rfl ?_
    refine V_iconst 1240 (0) rfl dL_law__1239 rfl ?_
    refine V_lald 1241 102 1 (J1 102 0) rfl (vp_in_nI (n := 0) (N := 1) (by decide) (by decide)) rfl (by decide) dL_law__1240 rfl ?_
    refine V_iload 1243 0 rfl dL_law__1241 rfl ?_
    refine V_i2l 1244 dL_law__1243 rfl ?_
    refine V_lcmp 1245 dL_law__1244 rfl ?_
    have hz0 : lg_cmp (J1 102 0) w2.toInt64 = 0 := by
      obtain ⟨v, ev⟩ := th0 (cd := 1) (by decide) (by decide) (ekk.symm.trans (by first | exact c1235 | exact Classical.not_not.mp c1235))
      exact lg_eq (by rw [hw2 v ev]; exact hJ1 v ev)
    refine V_if_eq 1250 1248 rfl dL_law__1245 rfl (fun c1245 => ?_) (fun c1245 => absurd hz0 c1245)
    refine V_goto 2352 rfl dL_law__1250 ?_
    exact V_lv [2, 3, 4, 5, 6] rfl (nd _ _ _ _ _ _ (by omega) (by omega) (SI_aft hS _) hC2 hM2)
theorem lw_given {G : Gx} {d : Nat} {I : FI} {R : FR} {J : FJ} {s : SG} {i k sl : Nat} (hX : SC I R s) (hM : SM I R s) (hS : SI s) (hL : 9 * i + 9 ≤ g_L G) (hL2 : g_L G ≤ 4608) (hk : k ≤ 1000 + 8 * i) (hsl : sl ≤ 100000 + 48 * i) (nd : ∀ k' sl' s' I' R' J', k' ≤ 1008 + 8 * i → sl' ≤ 100048 + 48 * i → SI s' → SC I' R' s' → SM I' R' s' → V G mL_law_ (d + 902) 601024 7293034 k' sl' 2352 (LV G i) [] 103 I' R' J' QL) : V G mL_law_ (d + 902) 601024 7293034 k sl 1253 (LV G i) [] 103 I R J QL := by
  refine V_aload_n 1254 3 rfl _ rfl rfl dL_law__1253 rfl ?_
  refine V_aload_n 1255 4 rfl _ rfl rfl dL_law__1254 rfl ?_
  refine V_iload 1257 0 rfl dL_law__1255 rfl ?_
  refine V_iconst 1258 (1) rfl dL_law__1257 rfl ?_
  refine V_iadd 1259 dL_law__1258 rfl ?_
  refine V_rw (nI_add (9 * i) 1) ?_
  refine V_sld 1260 (sx G i 1) rfl (vp_in_nI (by omega) (by omega)) dL_law__1259 rfl ?_
  refine V_aload_n 1261 4 rfl _ rfl rfl dL_law__1260 rfl ?_
  refine V_iload 1263 0 rfl dL_law__1261 rfl ?_
  refine V_iconst 1264 (2) rfl dL_law__1263 rfl ?_
  refine V_iadd 1265 dL_law__1264 rfl ?_
  refine V_rw (nI_add (9 * i) 2) ?_
  refine V_sld 1266 (sx G i 2) rfl (vp_in_nI (by omega) (by omega)) dL_law__1265 rfl ?_
  refine V_aload_n 1267 1 rfl _ rfl rfl dL_law__1266 rfl ?_
  refine V_callSw (K' := 8) (S' := 48) 1270 4 [rf G 0, .int (sx G i 1), .int (sx G i 2), rf G 102] mkL_given lkL_172 rfl (Nat.le_of_ble_eq_true rfl) (by omega) (by omega) (Nat.le_of_ble_eq_true rfl) rfl rfl dL_law__1267 rfl (h_given (d := d) (x := qT_given s (sx G i 1) (sx G i 2)) qk_given (fun Q' h => tC_given hX hS h) (fun I1 R1 J1 hC1 hF1 hJ1 => ?_))
  refine Kq_i (k' := (k + 8)) (sl' := (sl + 48)) rfl rfl ?_
  have hM1 := hM.cl hF1
  refine V_topi (fun kk ekk => ?_)
  refine V_istore 1272 [(5, .int kk), (4, .int (nI (9 * i))), (3, rf G 102), (2, rf G 69), (1, rf G 0), (0, .ref (g_s G))] (by decide) rfl dL_law__1270 rfl ?_
  refine V_aload_n 1273 3 rfl _ rfl rfl dL_law__1272 rfl ?_
  refine V_aload_n 1274 5 rfl _ rfl rfl dL_law__1273 rfl ?_
  refine V_iload 1276 1 rfl dL_law__1274 rfl ?_
  refine V_iconst 1277 (1) rfl dL_law__1276 rfl ?_
  refine V_iadd 1278 dL_law__1277 rfl ?_
  refine V_rw (nI_add (9 * i) 1) ?_
  refine V_sld 1279 (sx G i 1) rfl (vp_in_nI (by omega) (by omega)) dL_law__1278 rfl ?_
  refine V_aload_n 1280 5 rfl _ rfl rfl dL_law__1279 rfl ?_
  refine V_iload 1282 1 rfl dL_law__1280 rfl ?_
  refine V_iconst 1283 (2) rfl dL_law__1282 rfl ?_
  refine V_iadd 1284 dL_law__1283 rfl ?_
  refine V_rw (nI_add (9 * i) 2) ?_
  refine V_sld 1285 (sx G i 2) rfl (vp_in_nI (by omega) (by omega)) dL_law__1284 rfl ?_
  refine V_callV (K' := 0) (S' := 0) 1288 69 11 2 [.int (sx G i 1), .int (sx G i 2)] mkX11_given lkL_174 (by decide) rfl rfl (by decide) rfl (Nat.le_of_ble_eq_true rfl) (by omega) (by omega) (Nat.le_of_ble_eq_true rfl) rfl rfl dL_law__1285 rfl (tM_given (d := d + 1) hM1 hS (HR.i (fun I2 w2 hM2 hg2 ht2 hw2 => ?_)))
  refine Kq_i (k' := (k + 8)) (sl' := (sl + 48)) rfl rfl ?_
  have hC2 := hC1.rf hg2
  refine V_istore 1290 [(6, .int w2), (5, .int kk), (4, .int (nI (9 * i))), (3, rf G 102), (2, rf G 69), (1, rf G 0), (0, .ref (g_s G))] (by decide) rfl dL_law__1288 rfl ?_
  refine V_aload_n 1291 4 rfl _ rfl rfl dL_law__1290 rfl ?_
  refine V_callV (K' := 0) (S' := 0) 1294 69 11 0 [] mkX11_thrown lkL_118 (by decide) rfl rfl (by decide) rfl (Nat.le_of_ble_eq_true rfl) (by omega) (by omega) (Nat.le_of_ble_eq_true rfl) rfl rfl dL_law__1291 rfl (c_X11_thrown ?_)
  refine Kq_i (k' := (k + 8)) (sl' := (sl + 48)) rfl rfl ?_
  refine V_rw (ht2.trans ekk.symm) ?_
  refine V_iload 1296 1 rfl dL_law__1294 rfl ?_
  refine V_icmp_eq 1301 1299 rfl dL_law__1296 rfl (fun c1296 => ?_) (fun c1296 => absurd rfl c1296)
  refine V_iload 1303 1 rfl dL_law__1301 rfl ?_
  refine V_if_ne 1318 1306 rfl dL_law__1303 rfl (fun c1303 => ?_) (fun c1303 => ?_)
  · refine V_goto 2352 rfl dL_law__1318 ?_
    exact V_lv [2, 3, 4, 5, 6] rfl (nd _ _ _ _ _ _ (by omega) (by omega) (SI_aft hS _) hC2 hM2)
  · refine V_aload_n 1307 3 rfl _ rfl rfl dL_law__1306 rfl ?_
    refine V_iconst 1308 (0) rfl dL_law__1307 rfl ?_
    refine V_lald 1309 102 1 (J1 102 0) rfl (vp_in_nI (n := 0) (N := 1) (by decide) (by decide)) rfl (by decide) dL_law__1308 rfl ?_
    refine V_iload 1311 0 rfl dL_law__1309 rfl ?_
    refine V_i2l 1312 dL_law__1311 rfl ?_
    refine V_lcmp 1313 dL_law__1312 rfl ?_
    have hz0 : lg_cmp (J1 102 0) w2.toInt64 = 0 := by
      obtain ⟨v, ev⟩ := th0 (cd := 1) (by decide) (by decide) (ekk.symm.trans (by first | exact c1303 | exact Classical.not_not.mp c1303))
      exact lg_eq (by rw [hw2 v ev]; exact hJ1 v ev)
    refine V_if_eq 1318 1316 rfl dL_law__1313 rfl (fun c1313 => ?_) (fun c1313 => absurd hz0 c1313)
    refine V_goto 2352 rfl dL_law__1318 ?_
    exact V_lv [2, 3, 4, 5, 6] rfl (nd _ _ _ _ _ _ (by omega) (by omega) (SI_aft hS _) hC2 hM2)
theorem lw_line {G : Gx} {d : Nat} {I : FI} {R : FR} {J : FJ} {s : SG} {i k sl : Nat} (hX : SC I R s) (hM : SM I R s) (hS : SI s) (hL : 9 * i + 9 ≤ g_L G) (hL2 : g_L G ≤ 4608) (hk : k ≤ 1000 + 8 * i) (hsl : sl ≤ 100000 + 48 * i) (nd : ∀ k' sl' s' I' R' J', k' ≤ 1008 + 8 * i → sl' ≤ 100048 + 48 * i → SI s' → SC I' R' s' → SM I' R' s' → V G mL_law_ (d + 902) 601024 7293034 k' sl' 2352 (LV G i) [] 103 I' R' J' QL) : V G mL_law_ (d + 902) 601024 7293034 k sl 1321 (LV G i) [] 103 I R J QL := by
  refine V_aload_n 1322 3 rfl _ rfl rfl dL_law__1321 rfl ?_
  refine V_aload_n 1323 4 rfl _ rfl rfl dL_law__1322 rfl ?_
  refine V_iload 1325 0 rfl dL_law__1323 rfl ?_
  refine V_iconst 1326 (1) rfl dL_law__1325 rfl ?_
  refine V_iadd 1327 dL_law__1326 rfl ?_
  refine V_rw (nI_add (9 * i) 1) ?_
  refine V_sld 1328 (sx G i 1) rfl (vp_in_nI (by omega) (by omega)) dL_law__1327 rfl ?_
  refine V_aload_n 1329 4 rfl _ rfl rfl dL_law__1328 rfl ?_
  refine V_iload 1331 0 rfl dL_law__1329 rfl ?_
  refine V_iconst 1332 (2) rfl dL_law__1331 rfl ?_
  refine V_iadd 1333 dL_law__1332 rfl ?_
  refine V_rw (nI_add (9 * i) 2) ?_
  refine V_sld 1334 (sx G i 2) rfl (vp_in_nI (by omega) (by omega)) dL_law__1333 rfl ?_
  refine V_aload_n 1335 1 rfl _ rfl rfl dL_law__1334 rfl ?_
  refine V_callSw (K' := 8) (S' := 48) 1338 4 [rf G 0, .int (sx G i 1), .int (sx G i 2), rf G 102] mkL_line lkL_175 rfl (Nat.le_of_ble_eq_true rfl) (by omega) (by omega) (Nat.le_of_ble_eq_true rfl) rfl rfl dL_law__1335 rfl (h_line (d := d) (x := qT_line s (sx G i 1) (sx G i 2)) qk_line (fun Q' h => tC_line hX hS h) (fun I1 R1 J1 hC1 hF1 hJ1 => ?_))
  refine Kq_i (k' := (k + 8)) (sl' := (sl + 48)) rfl rfl ?_
  have hM1 := hM.cl hF1
  refine V_topi (fun kk ekk => ?_)
  refine V_istore 1340 [(5, .int kk), (4, .int (nI (9 * i))), (3, rf G 102), (2, rf G 69), (1, rf G 0), (0, .ref (g_s G))] (by decide) rfl dL_law__1338 rfl ?_
  refine V_aload_n 1341 3 rfl _ rfl rfl dL_law__1340 rfl ?_
  refine V_aload_n 1342 5 rfl _ rfl rfl dL_law__1341 rfl ?_
  refine V_iload 1344 1 rfl dL_law__1342 rfl ?_
  refine V_iconst 1345 (1) rfl dL_law__1344 rfl ?_
  refine V_iadd 1346 dL_law__1345 rfl ?_
  refine V_rw (nI_add (9 * i) 1) ?_
  refine V_sld 1347 (sx G i 1) rfl (vp_in_nI (by omega) (by omega)) dL_law__1346 rfl ?_
  refine V_aload_n 1348 5 rfl _ rfl rfl dL_law__1347 rfl ?_
  refine V_iload 1350 1 rfl dL_law__1348 rfl ?_
  refine V_iconst 1351 (2) rfl dL_law__1350 rfl ?_
  refine V_iadd 1352 dL_law__1351 rfl ?_
  refine V_rw (nI_add (9 * i) 2) ?_
  refine V_sld 1353 (sx G i 2) rfl (vp_in_nI (by omega) (by omega)) dL_law__1352 rfl ?_
  refine V_callV (K' := 0) (S' := 0) 1356 69 11 2 [.int (sx G i 1), .int (sx G i 2)] mkX11_line lkL_177 (by decide) rfl rfl (by decide) rfl (Nat.le_of_ble_eq_true rfl) (by omega) (by omega) (Nat.le_of_ble_eq_true rfl) rfl rfl dL_law__1353 rfl (tM_line (d := d + 1) hM1 hS (HR.i (fun I2 w2 hM2 hg2 ht2 hw2 => ?_)))
  refine Kq_i (k' := (k + 8)) (sl' := (sl + 48)) rfl rfl ?_
  have hC2 := hC1.rf hg2
  refine V_istore 1358 [(6, .int w2), (5, .int kk), (4, .int (nI (9 * i))), (3, rf G 102), (2, rf G 69), (1, rf G 0), (0, .ref (g_s G))] (by decide) rfl dL_law__1356 rfl ?_
  refine V_aload_n 1359 4 rfl _ rfl rfl dL_law__1358 rfl ?_
  refine V_callV (K' := 0) (S' := 0) 1362 69 11 0 [] mkX11_thrown lkL_118 (by decide) rfl rfl (by decide) rfl (Nat.le_of_ble_eq_true rfl) (by omega) (by omega) (Nat.le_of_ble_eq_true rfl) rfl rfl dL_law__1359 rfl (c_X11_thrown ?_)
  refine Kq_i (k' := (k + 8)) (sl' := (sl + 48)) rfl rfl ?_
  refine V_rw (ht2.trans ekk.symm) ?_
  refine V_iload 1364 1 rfl dL_law__1362 rfl ?_
  refine V_icmp_eq 1369 1367 rfl dL_law__1364 rfl (fun c1364 => ?_) (fun c1364 => absurd rfl c1364)
  refine V_iload 1371 1 rfl dL_law__1369 rfl ?_
  refine V_if_ne 1386 1374 rfl dL_law__1371 rfl (fun c1371 => ?_) (fun c1371 => ?_)
  · refine V_goto 2352 rfl dL_law__1386 ?_
    exact V_lv [2, 3, 4, 5, 6] rfl (nd _ _ _ _ _ _ (by omega) (by omega) (SI_aft hS _) hC2 hM2)
  · refine V_aload_n 1375 3 rfl _ rfl rfl dL_law__1374 rfl ?_
    refine V_iconst 1376 (0) rfl dL_law__1375 rfl ?_
    refine V_lald 1377 102 1 (J1 102 0) rfl (vp_in_nI (n := 0) (N := 1) (by decide) (by decide)) rfl (by decide) dL_law__1376 rfl ?_
    refine V_iload 1379 0 rfl dL_law__1377 rfl ?_
    refine V_i2l 1380 dL_law__1379 rfl ?_
    refine V_lcmp 1381 dL_law__1380 rfl ?_
    have hz0 : lg_cmp (J1 102 0) w2.toInt64 = 0 := by
      obtain ⟨v, ev⟩ := th0 (cd := 2) (by decide) (by decide) (ekk.symm.trans (by first | exact c1371 | exact Classical.not_not.mp c1371))
      exact lg_eq (by rw [hw2 v ev]; exact hJ1 v ev)
    refine V_if_eq 1386 1384 rfl dL_law__1381 rfl (fun c1381 => ?_) (fun c1381 => absurd hz0 c1381)
    refine V_goto 2352 rfl dL_law__1386 ?_
    exact V_lv [2, 3, 4, 5, 6] rfl (nd _ _ _ _ _ _ (by omega) (by omega) (SI_aft hS _) hC2 hM2)
theorem lw_meets {G : Gx} {d : Nat} {I : FI} {R : FR} {J : FJ} {s : SG} {i k sl : Nat} (hX : SC I R s) (hM : SM I R s) (hS : SI s) (hL : 9 * i + 9 ≤ g_L G) (hL2 : g_L G ≤ 4608) (hk : k ≤ 1000 + 8 * i) (hsl : sl ≤ 100000 + 48 * i) (nd : ∀ k' sl' s' I' R' J', k' ≤ 1008 + 8 * i → sl' ≤ 100048 + 48 * i → SI s' → SC I' R' s' → SM I' R' s' → V G mL_law_ (d + 902) 601024 7293034 k' sl' 2352 (LV G i) [] 103 I' R' J' QL) : V G mL_law_ (d + 902) 601024 7293034 k sl 1389 (LV G i) [] 103 I R J QL := by
  refine V_aload_n 1390 3 rfl _ rfl rfl dL_law__1389 rfl ?_
  refine V_aload_n 1391 4 rfl _ rfl rfl dL_law__1390 rfl ?_
  refine V_iload 1393 0 rfl dL_law__1391 rfl ?_
  refine V_iconst 1394 (1) rfl dL_law__1393 rfl ?_
  refine V_iadd 1395 dL_law__1394 rfl ?_
  refine V_rw (nI_add (9 * i) 1) ?_
  refine V_sld 1396 (sx G i 1) rfl (vp_in_nI (by omega) (by omega)) dL_law__1395 rfl ?_
  refine V_aload_n 1397 4 rfl _ rfl rfl dL_law__1396 rfl ?_
  refine V_iload 1399 0 rfl dL_law__1397 rfl ?_
  refine V_iconst 1400 (2) rfl dL_law__1399 rfl ?_
  refine V_iadd 1401 dL_law__1400 rfl ?_
  refine V_rw (nI_add (9 * i) 2) ?_
  refine V_sld 1402 (sx G i 2) rfl (vp_in_nI (by omega) (by omega)) dL_law__1401 rfl ?_
  refine V_aload_n 1403 4 rfl _ rfl rfl dL_law__1402 rfl ?_
  refine V_iload 1405 0 rfl dL_law__1403 rfl ?_
  refine V_iconst 1406 (3) rfl dL_law__1405 rfl ?_
  refine V_iadd 1407 dL_law__1406 rfl ?_
  refine V_rw (nI_add (9 * i) 3) ?_
  refine V_sld 1408 (sx G i 3) rfl (vp_in_nI (by omega) (by omega)) dL_law__1407 rfl ?_
  refine V_aload_n 1409 1 rfl _ rfl rfl dL_law__1408 rfl ?_
  refine V_callSw (K' := 8) (S' := 48) 1412 5 [rf G 0, .int (sx G i 1), .int (sx G i 2), .int (sx G i 3), rf G 102] mkL_meets lkL_178 rfl (Nat.le_of_ble_eq_true rfl) (by omega) (by omega) (Nat.le_of_ble_eq_true rfl) rfl rfl dL_law__1409 rfl (h_meets (d := d) (x := qT_meets s (sx G i 1) (sx G i 2) (sx G i 3)) qk_meets (fun Q' h => tC_meets hX hS h) (fun I1 R1 J1 hC1 hF1 hJ1 => ?_))
  refine Kq_i (k' := (k + 8)) (sl' := (sl + 48)) rfl rfl ?_
  have hM1 := hM.cl hF1
  refine V_topi (fun kk ekk => ?_)
  refine V_istore 1414 [(5, .int kk), (4, .int (nI (9 * i))), (3, rf G 102), (2, rf G 69), (1, rf G 0), (0, .ref (g_s G))] (by decide) rfl dL_law__1412 rfl ?_
  refine V_aload_n 1415 3 rfl _ rfl rfl dL_law__1414 rfl ?_
  refine V_aload_n 1416 5 rfl _ rfl rfl dL_law__1415 rfl ?_
  refine V_iload 1418 1 rfl dL_law__1416 rfl ?_
  refine V_iconst 1419 (1) rfl dL_law__1418 rfl ?_
  refine V_iadd 1420 dL_law__1419 rfl ?_
  refine V_rw (nI_add (9 * i) 1) ?_
  refine V_sld 1421 (sx G i 1) rfl (vp_in_nI (by omega) (by omega)) dL_law__1420 rfl ?_
  refine V_aload_n 1422 5 rfl _ rfl rfl dL_law__1421 rfl ?_
  refine V_iload 1424 1 rfl dL_law__1422 rfl ?_
  refine V_iconst 1425 (2) rfl dL_law__1424 rfl ?_
  refine V_iadd 1426 dL_law__1425 rfl ?_
  refine V_rw (nI_add (9 * i) 2) ?_
  refine V_sld 1427 (sx G i 2) rfl (vp_in_nI (by omega) (by omega)) dL_law__1426 rfl ?_
  refine V_aload_n 1428 5 rfl _ rfl rfl dL_law__1427 rfl ?_
  refine V_iload 1430 1 rfl dL_law__1428 rfl ?_
  refine V_iconst 1431 (3) rfl dL_law__1430 rfl ?_
  refine V_iadd 1432 dL_law__1431 rfl ?_
  refine V_rw (nI_add (9 * i) 3) ?_
  refine V_sld 1433 (sx G i 3) rfl (vp_in_nI (by omega) (by omega)) dL_law__1432 rfl ?_
  refine V_callV (K' := 0) (S' := 0) 1436 69 11 3 [.int (sx G i 1), .int (sx G i 2), .int (sx G i 3)] mkX11_meets lkL_181 (by decide) rfl rfl (by decide) rfl (Nat.le_of_ble_eq_true rfl) (by omega) (by omega) (Nat.le_of_ble_eq_true rfl) rfl rfl dL_law__1433 rfl (tM_meets (d := d + 1) hM1 hS (HR.i (fun I2 w2 hM2 hg2 ht2 hw2 => ?_)))
  refine Kq_i (k' := (k + 8)) (sl' := (sl + 48)) rfl rfl ?_
  have hC2 := hC1.rf hg2
  refine V_istore 1438 [(6, .int w2), (5, .int kk), (4, .int (nI (9 * i))), (3, rf G 102), (2, rf G 69), (1, rf G 0), (0, .ref (g_s G))] (by decide) rfl dL_law__1436 rfl ?_
  refine V_aload_n 1439 4 rfl _ rfl rfl dL_law__1438 rfl ?_
  refine V_callV (K' := 0) (S' := 0) 1442 69 11 0 [] mkX11_thrown lkL_118 (by decide) rfl rfl (by decide) rfl (Nat.le_of_ble_eq_true rfl) (by omega) (by omega) (Nat.le_of_ble_eq_true rfl) rfl rfl dL_law__1439 rfl (c_X11_thrown ?_)
  refine Kq_i (k' := (k + 8)) (sl' := (sl + 48)) rfl rfl ?_
  refine V_rw (ht2.trans ekk.symm) ?_
  refine V_iload 1444 1 rfl dL_law__1442 rfl ?_
  refine V_icmp_eq 1449 1447 rfl dL_law__1444 rfl (fun c1444 => ?_) (fun c1444 => absurd rfl c1444)
  refine V_iload 1451 1 rfl dL_law__1449 rfl ?_
  refine V_if_ne 1466 1454 rfl dL_law__1451 rfl (fun c1451 => ?_) (fun c1451 => ?_)
  · refine V_goto 2352 rfl dL_law__1466 ?_
    exact V_lv [2, 3, 4, 5, 6] rfl (nd _ _ _ _ _ _ (by omega) (by omega) (SI_aft hS _) hC2 hM2)
  · refine V_aload_n 1455 3 rfl _ rfl rfl dL_law__1454 rfl ?_
    refine V_iconst 1456 (0) rfl dL_law__1455 rfl ?_
    refine V_lald 1457 102 1 (J1 102 0) rfl (vp_in_nI (n := 0) (N := 1) (by decide) (by decide)) rfl (by decide) dL_law__1456 rfl ?_
    refine V_iload 1459 0 rfl dL_law__1457 rfl ?_
    refine V_i2l 1460 dL_law__1459 rfl ?_
    refine V_lcmp 1461 dL_law__1460 rfl ?_
    have hz0 : lg_cmp (J1 102 0) w2.toInt64 = 0 := by
      obtain ⟨v, ev⟩ := th0 (cd := 2) (by decide) (by decide) (ekk.symm.trans (by first | exact c1451 | exact Classical.not_not.mp c1451))
      exact lg_eq (by rw [hw2 v ev]; exact hJ1 v ev)
    refine V_if_eq 1466 1464 rfl dL_law__1461 rfl (fun c1461 => ?_) (fun c1461 => absurd hz0 c1461)
    refine V_goto 2352 rfl dL_law__1466 ?_
    exact V_lv [2, 3, 4, 5, 6] rfl (nd _ _ _ _ _ _ (by omega) (by omega) (SI_aft hS _) hC2 hM2)
theorem lw_fits {G : Gx} {d : Nat} {I : FI} {R : FR} {J : FJ} {s : SG} {i k sl : Nat} (hX : SC I R s) (hM : SM I R s) (hS : SI s) (hL : 9 * i + 9 ≤ g_L G) (hL2 : g_L G ≤ 4608) (hk : k ≤ 1000 + 8 * i) (hsl : sl ≤ 100000 + 48 * i) (nd : ∀ k' sl' s' I' R' J', k' ≤ 1008 + 8 * i → sl' ≤ 100048 + 48 * i → SI s' → SC I' R' s' → SM I' R' s' → V G mL_law_ (d + 902) 601024 7293034 k' sl' 2352 (LV G i) [] 103 I' R' J' QL) : V G mL_law_ (d + 902) 601024 7293034 k sl 1469 (LV G i) [] 103 I R J QL := by
  refine V_aload_n 1470 3 rfl _ rfl rfl dL_law__1469 rfl ?_
  refine V_aload_n 1471 4 rfl _ rfl rfl dL_law__1470 rfl ?_
  refine V_iload 1473 0 rfl dL_law__1471 rfl ?_
  refine V_iconst 1474 (1) rfl dL_law__1473 rfl ?_
  refine V_iadd 1475 dL_law__1474 rfl ?_
  refine V_rw (nI_add (9 * i) 1) ?_
  refine V_sld 1476 (sx G i 1) rfl (vp_in_nI (by omega) (by omega)) dL_law__1475 rfl ?_
  refine V_aload_n 1477 4 rfl _ rfl rfl dL_law__1476 rfl ?_
  refine V_iload 1479 0 rfl dL_law__1477 rfl ?_
  refine V_iconst 1480 (2) rfl dL_law__1479 rfl ?_
  refine V_iadd 1481 dL_law__1480 rfl ?_
  refine V_rw (nI_add (9 * i) 2) ?_
  refine V_sld 1482 (sx G i 2) rfl (vp_in_nI (by omega) (by omega)) dL_law__1481 rfl ?_
  refine V_aload_n 1483 1 rfl _ rfl rfl dL_law__1482 rfl ?_
  refine V_callSw (K' := 8) (S' := 48) 1486 4 [rf G 0, .int (sx G i 1), .int (sx G i 2), rf G 102] mkL_fits lkL_182 rfl (Nat.le_of_ble_eq_true rfl) (by omega) (by omega) (Nat.le_of_ble_eq_true rfl) rfl rfl dL_law__1483 rfl (h_fits (d := d) (x := qT_fits s (sx G i 1) (sx G i 2)) qk_fits (fun Q' h => tC_fits hX hS h) (fun I1 R1 J1 hC1 hF1 hJ1 => ?_))
  refine Kq_i (k' := (k + 8)) (sl' := (sl + 48)) rfl rfl ?_
  have hM1 := hM.cl hF1
  refine V_topi (fun kk ekk => ?_)
  refine V_istore 1488 [(5, .int kk), (4, .int (nI (9 * i))), (3, rf G 102), (2, rf G 69), (1, rf G 0), (0, .ref (g_s G))] (by decide) rfl dL_law__1486 rfl ?_
  refine V_aload_n 1489 3 rfl _ rfl rfl dL_law__1488 rfl ?_
  refine V_aload_n 1490 5 rfl _ rfl rfl dL_law__1489 rfl ?_
  refine V_iload 1492 1 rfl dL_law__1490 rfl ?_
  refine V_iconst 1493 (1) rfl dL_law__1492 rfl ?_
  refine V_iadd 1494 dL_law__1493 rfl ?_
  refine V_rw (nI_add (9 * i) 1) ?_
  refine V_sld 1495 (sx G i 1) rfl (vp_in_nI (by omega) (by omega)) dL_law__1494 rfl ?_
  refine V_aload_n 1496 5 rfl _ rfl rfl dL_law__1495 rfl ?_
  refine V_iload 1498 1 rfl dL_law__1496 rfl ?_
  refine V_iconst 1499 (2) rfl dL_law__1498 rfl ?_
  refine V_iadd 1500 dL_law__1499 rfl ?_
  refine V_rw (nI_add (9 * i) 2) ?_
  refine V_sld 1501 (sx G i 2) rfl (vp_in_nI (by omega) (by omega)) dL_law__1500 rfl ?_
  refine V_callV (K' := 0) (S' := 0) 1504 69 11 2 [.int (sx G i 1), .int (sx G i 2)] mkX11_fits lkL_184 (by decide) rfl rfl (by decide) rfl (Nat.le_of_ble_eq_true rfl) (by omega) (by omega) (Nat.le_of_ble_eq_true rfl) rfl rfl dL_law__1501 rfl (tM_fits (d := d + 1) hM1 hS (HR.i (fun I2 w2 hM2 hg2 ht2 hw2 => ?_)))
  refine Kq_i (k' := (k + 8)) (sl' := (sl + 48)) rfl rfl ?_
  have hC2 := hC1.rf hg2
  refine V_istore 1506 [(6, .int w2), (5, .int kk), (4, .int (nI (9 * i))), (3, rf G 102), (2, rf G 69), (1, rf G 0), (0, .ref (g_s G))] (by decide) rfl dL_law__1504 rfl ?_
  refine V_aload_n 1507 4 rfl _ rfl rfl dL_law__1506 rfl ?_
  refine V_callV (K' := 0) (S' := 0) 1510 69 11 0 [] mkX11_thrown lkL_118 (by decide) rfl rfl (by decide) rfl (Nat.le_of_ble_eq_true rfl) (by omega) (by omega) (Nat.le_of_ble_eq_true rfl) rfl rfl dL_law__1507 rfl (c_X11_thrown ?_)
  refine Kq_i (k' := (k + 8)) (sl' := (sl + 48)) rfl rfl ?_
  refine V_rw (ht2.trans ekk.symm) ?_
  refine V_iload 1512 1 rfl dL_law__1510 rfl ?_
  refine V_icmp_eq 1517 1515 rfl dL_law__1512 rfl (fun c1512 => ?_) (fun c1512 => absurd rfl c1512)
  refine V_iload 1519 1 rfl dL_law__1517 rfl ?_
  refine V_if_ne 1534 1522 rfl dL_law__1519 rfl (fun c1519 => ?_) (fun c1519 => ?_)
  · refine V_goto 2352 rfl dL_law__1534 ?_
    exact V_lv [2, 3, 4, 5, 6] rfl (nd _ _ _ _ _ _ (by omega) (by omega) (SI_aft hS _) hC2 hM2)
  · refine V_aload_n 1523 3 rfl _ rfl rfl dL_law__1522 rfl ?_
    refine V_iconst 1524 (0) rfl dL_law__1523 rfl ?_
    refine V_lald 1525 102 1 (J1 102 0) rfl (vp_in_nI (n := 0) (N := 1) (by decide) (by decide)) rfl (by decide) dL_law__1524 rfl ?_
    refine V_iload 1527 0 rfl dL_law__1525 rfl ?_
    refine V_i2l 1528 dL_law__1527 rfl ?_
    refine V_lcmp 1529 dL_law__1528 rfl ?_
    have hz0 : lg_cmp (J1 102 0) w2.toInt64 = 0 := by
      obtain ⟨v, ev⟩ := th0 (cd := 2) (by decide) (by decide) (ekk.symm.trans (by first | exact c1519 | exact Classical.not_not.mp c1519))
      exact lg_eq (by rw [hw2 v ev]; exact hJ1 v ev)
    refine V_if_eq 1534 1532 rfl dL_law__1529 rfl (fun c1529 => ?_) (fun c1529 => absurd hz0 c1529)
    refine V_goto 2352 rfl dL_law__1534 ?_
    exact V_lv [2, 3, 4, 5, 6] rfl (nd _ _ _ _ _ _ (by omega) (by omega) (SI_aft hS _) hC2 hM2)
theorem lw_look {G : Gx} {d : Nat} {I : FI} {R : FR} {J : FJ} {s : SG} {i k sl : Nat} (hX : SC I R s) (hM : SM I R s) (hS : SI s) (hL : 9 * i + 9 ≤ g_L G) (hL2 : g_L G ≤ 4608) (hk : k ≤ 1000 + 8 * i) (hsl : sl ≤ 100000 + 48 * i) (nd : ∀ k' sl' s' I' R' J', k' ≤ 1008 + 8 * i → sl' ≤ 100048 + 48 * i → SI s' → SC I' R' s' → SM I' R' s' → V G mL_law_ (d + 902) 601024 7293034 k' sl' 2352 (LV G i) [] 103 I' R' J' QL) : V G mL_law_ (d + 902) 601024 7293034 k sl 1537 (LV G i) [] 103 I R J QL := by
  refine V_aload_n 1538 3 rfl _ rfl rfl dL_law__1537 rfl ?_
  refine V_aload_n 1539 4 rfl _ rfl rfl dL_law__1538 rfl ?_
  refine V_iload 1541 0 rfl dL_law__1539 rfl ?_
  refine V_iconst 1542 (1) rfl dL_law__1541 rfl ?_
  refine V_iadd 1543 dL_law__1542 rfl ?_
  refine V_rw (nI_add (9 * i) 1) ?_
  refine V_sld 1544 (sx G i 1) rfl (vp_in_nI (by omega) (by omega)) dL_law__1543 rfl ?_
  refine V_aload_n 1545 4 rfl _ rfl rfl dL_law__1544 rfl ?_
  refine V_iload 1547 0 rfl dL_law__1545 rfl ?_
  refine V_iconst 1548 (2) rfl dL_law__1547 rfl ?_
  refine V_iadd 1549 dL_law__1548 rfl ?_
  refine V_rw (nI_add (9 * i) 2) ?_
  refine V_sld 1550 (sx G i 2) rfl (vp_in_nI (by omega) (by omega)) dL_law__1549 rfl ?_
  refine V_aload_n 1551 1 rfl _ rfl rfl dL_law__1550 rfl ?_
  refine V_callSw (K' := 8) (S' := 48) 1554 4 [rf G 0, .int (sx G i 1), .int (sx G i 2), rf G 102] mkL_look lkL_185 rfl (Nat.le_of_ble_eq_true rfl) (by omega) (by omega) (Nat.le_of_ble_eq_true rfl) rfl rfl dL_law__1551 rfl (h_look (d := d) (x := qT_look s (sx G i 1) (sx G i 2)) qk_look (fun Q' h => tC_look hX hS h) (fun I1 R1 J1 hC1 hF1 hJ1 => ?_))
  refine Kq_i (k' := (k + 8)) (sl' := (sl + 48)) rfl rfl ?_
  have hM1 := hM.cl hF1
  refine V_topi (fun kk ekk => ?_)
  refine V_istore 1556 [(5, .int kk), (4, .int (nI (9 * i))), (3, rf G 102), (2, rf G 69), (1, rf G 0), (0, .ref (g_s G))] (by decide) rfl dL_law__1554 rfl ?_
  refine V_aload_n 1557 3 rfl _ rfl rfl dL_law__1556 rfl ?_
  refine V_aload_n 1558 5 rfl _ rfl rfl dL_law__1557 rfl ?_
  refine V_iload 1560 1 rfl dL_law__1558 rfl ?_
  refine V_iconst 1561 (1) rfl dL_law__1560 rfl ?_
  refine V_iadd 1562 dL_law__1561 rfl ?_
  refine V_rw (nI_add (9 * i) 1) ?_
  refine V_sld 1563 (sx G i 1) rfl (vp_in_nI (by omega) (by omega)) dL_law__1562 rfl ?_
  refine V_aload_n 1564 5 rfl _ rfl rfl dL_law__1563 rfl ?_
  refine V_iload 1566 1 rfl dL_law__1564 rfl ?_
  refine V_iconst 1567 (2) rfl dL_law__1566 rfl ?_
  refine V_iadd 1568 dL_law__1567 rfl ?_
  refine V_rw (nI_add (9 * i) 2) ?_
  refine V_sld 1569 (sx G i 2) rfl (vp_in_nI (by omega) (by omega)) dL_law__1568 rfl ?_
  refine V_callV (K' := 0) (S' := 0) 1572 69 11 2 [.int (sx G i 1), .int (sx G i 2)] mkX11_look lkL_187 (by decide) rfl rfl (by decide) rfl (Nat.le_of_ble_eq_true rfl) (by omega) (by omega) (Nat.le_of_ble_eq_true rfl) rfl rfl dL_law__1569 rfl (tM_look (d := d + 1) hM1 hS (HR.i (fun I2 w2 hM2 hg2 ht2 hw2 => ?_)))
  refine Kq_i (k' := (k + 8)) (sl' := (sl + 48)) rfl rfl ?_
  have hC2 := hC1.rf hg2
  refine V_istore 1574 [(6, .int w2), (5, .int kk), (4, .int (nI (9 * i))), (3, rf G 102), (2, rf G 69), (1, rf G 0), (0, .ref (g_s G))] (by decide) rfl dL_law__1572 rfl ?_
  refine V_aload_n 1575 4 rfl _ rfl rfl dL_law__1574 rfl ?_
  refine V_callV (K' := 0) (S' := 0) 1578 69 11 0 [] mkX11_thrown lkL_118 (by decide) rfl rfl (by decide) rfl (Nat.le_of_ble_eq_true rfl) (by omega) (by omega) (Nat.le_of_ble_eq_true rfl) rfl rfl dL_law__1575 rfl (c_X11_thrown ?_)
  refine Kq_i (k' := (k + 8)) (sl' := (sl + 48)) rfl rfl ?_
  refine V_rw (ht2.trans ekk.symm) ?_
  refine V_iload 1580 1 rfl dL_law__1578 rfl ?_
  refine V_icmp_eq 1585 1583 rfl dL_law__1580 rfl (fun c1580 => ?_) (fun c1580 => absurd rfl c1580)
  refine V_iload 1587 1 rfl dL_law__1585 rfl ?_
  refine V_if_ne 1602 1590 rfl dL_law__1587 rfl (fun c1587 => ?_) (fun c1587 => ?_)
  · refine V_goto 2352 rfl dL_law__1602 ?_
    exact V_lv [2, 3, 4, 5, 6] rfl (nd _ _ _ _ _ _ (by omega) (by omega) (SI_aft hS _) hC2 hM2)
  · refine V_aload_n 1591 3 rfl _ rfl rfl dL_law__1590 rfl ?_
    refine V_iconst 1592 (0) rfl dL_law__1591 rfl ?_
    refine V_lald 1593 102 1 (J1 102 0) rfl (vp_in_nI (n := 0) (N := 1) (by decide) (by decide)) rfl (by decide) dL_law__1592 rfl ?_
    refine V_iload 1595 0 rfl dL_law__1593 rfl ?_
    refine V_i2l 1596 dL_law__1595 rfl ?_
    refine V_lcmp 1597 dL_law__1596 rfl ?_
    have hz0 : lg_cmp (J1 102 0) w2.toInt64 = 0 := by
      obtain ⟨v, ev⟩ := th0 (cd := 2) (by decide) (by decide) (ekk.symm.trans (by first | exact c1587 | exact Classical.not_not.mp c1587))
      exact lg_eq (by rw [hw2 v ev]; exact hJ1 v ev)
    refine V_if_eq 1602 1600 rfl dL_law__1597 rfl (fun c1597 => ?_) (fun c1597 => absurd hz0 c1597)
    refine V_goto 2352 rfl dL_law__1602 ?_
    exact V_lv [2, 3, 4, 5, 6] rfl (nd _ _ _ _ _ _ (by omega) (by omega) (SI_aft hS _) hC2 hM2)
theorem lw_fleet {G : Gx} {d : Nat} {I : FI} {R : FR} {J : FJ} {s : SG} {i k sl : Nat} (hX : SC I R s) (hM : SM I R s) (hS : SI s) (hL : 9 * i + 9 ≤ g_L G) (hL2 : g_L G ≤ 4608) (hk : k ≤ 1000 + 8 * i) (hsl : sl ≤ 100000 + 48 * i) (nd : ∀ k' sl' s' I' R' J', k' ≤ 1008 + 8 * i → sl' ≤ 100048 + 48 * i → SI s' → SC I' R' s' → SM I' R' s' → V G mL_law_ (d + 902) 601024 7293034 k' sl' 2352 (LV G i) [] 103 I' R' J' QL) : V G mL_law_ (d + 902) 601024 7293034 k sl 1605 (LV G i) [] 103 I R J QL := by
  refine V_aload_n 1606 3 rfl _ rfl rfl dL_law__1605 rfl ?_
  refine V_aload_n 1607 4 rfl _ rfl rfl dL_law__1606 rfl ?_
  refine V_iload 1609 0 rfl dL_law__1607 rfl ?_
  refine V_iconst 1610 (1) rfl dL_law__1609 rfl ?_
  refine V_iadd 1611 dL_law__1610 rfl ?_
  refine V_rw (nI_add (9 * i) 1) ?_
  refine V_sld 1612 (sx G i 1) rfl (vp_in_nI (by omega) (by omega)) dL_law__1611 rfl ?_
  refine V_aload_n 1613 4 rfl _ rfl rfl dL_law__1612 rfl ?_
  refine V_iload 1615 0 rfl dL_law__1613 rfl ?_
  refine V_iconst 1616 (2) rfl dL_law__1615 rfl ?_
  refine V_iadd 1617 dL_law__1616 rfl ?_
  refine V_rw (nI_add (9 * i) 2) ?_
  refine V_sld 1618 (sx G i 2) rfl (vp_in_nI (by omega) (by omega)) dL_law__1617 rfl ?_
  refine V_aload_n 1619 1 rfl _ rfl rfl dL_law__1618 rfl ?_
  refine V_callSw (K' := 8) (S' := 48) 1622 4 [rf G 0, .int (sx G i 1), .int (sx G i 2), rf G 102] mkL_fleet lkL_188 rfl (Nat.le_of_ble_eq_true rfl) (by omega) (by omega) (Nat.le_of_ble_eq_true rfl) rfl rfl dL_law__1619 rfl (h_fleet (d := d) (x := qT_fleet s (sx G i 1) (sx G i 2)) qk_fleet (fun Q' h => tC_fleet hX hS h) (fun I1 R1 J1 hC1 hF1 hJ1 => ?_))
  refine Kq_i (k' := (k + 8)) (sl' := (sl + 48)) rfl rfl ?_
  have hM1 := hM.cl hF1
  refine V_topi (fun kk ekk => ?_)
  refine V_istore 1624 [(5, .int kk), (4, .int (nI (9 * i))), (3, rf G 102), (2, rf G 69), (1, rf G 0), (0, .ref (g_s G))] (by decide) rfl dL_law__1622 rfl ?_
  refine V_aload_n 1625 3 rfl _ rfl rfl dL_law__1624 rfl ?_
  refine V_aload_n 1626 5 rfl _ rfl rfl dL_law__1625 rfl ?_
  refine V_iload 1628 1 rfl dL_law__1626 rfl ?_
  refine V_iconst 1629 (1) rfl dL_law__1628 rfl ?_
  refine V_iadd 1630 dL_law__1629 rfl ?_
  refine V_rw (nI_add (9 * i) 1) ?_
  refine V_sld 1631 (sx G i 1) rfl (vp_in_nI (by omega) (by omega)) dL_law__1630 rfl ?_
  refine V_aload_n 1632 5 rfl _ rfl rfl dL_law__1631 rfl ?_
  refine V_iload 1634 1 rfl dL_law__1632 rfl ?_
  refine V_iconst 1635 (2) rfl dL_law__1634 rfl ?_
  refine V_iadd 1636 dL_law__1635 rfl ?_
  refine V_rw (nI_add (9 * i) 2) ?_
  refine V_sld 1637 (sx G i 2) rfl (vp_in_nI (by omega) (by omega)) dL_law__1636 rfl ?_
  refine V_callV (K' := 0) (S' := 0) 1640 69 11 2 [.int (sx G i 1), .int (sx G i 2)] mkX11_fleet lkL_190 (by decide) rfl rfl (by decide) rfl (Nat.le_of_ble_eq_true rfl) (by omega) (by omega) (Nat.le_of_ble_eq_true rfl) rfl rfl dL_law__1637 rfl (tM_fleet (d := d + 1) hM1 hS (HR.i (fun I2 w2 hM2 hg2 ht2 hw2 => ?_)))
  refine Kq_i (k' := (k + 8)) (sl' := (sl + 48)) rfl rfl ?_
  have hC2 := hC1.rf hg2
  refine V_istore 1642 [(6, .int w2), (5, .int kk), (4, .int (nI (9 * i))), (3, rf G 102), (2, rf G 69), (1, rf G 0), (0, .ref (g_s G))] (by decide) rfl dL_law__1640 rfl ?_
  refine V_aload_n 1643 4 rfl _ rfl rfl dL_law__1642 rfl ?_
  refine V_callV (K' := 0) (S' := 0) 1646 69 11 0 [] mkX11_thrown lkL_118 (by decide) rfl rfl (by decide) rfl (Nat.le_of_ble_eq_true rfl) (by omega) (by omega) (Nat.le_of_ble_eq_true rfl) rfl rfl dL_law__1643 rfl (c_X11_thrown ?_)
  refine Kq_i (k' := (k + 8)) (sl' := (sl + 48)) rfl rfl ?_
  refine V_rw (ht2.trans ekk.symm) ?_
  refine V_iload 1648 1 rfl dL_law__1646 rfl ?_
  refine V_icmp_eq 1653 1651 rfl dL_law__1648 rfl (fun c1648 => ?_) (fun c1648 => absurd rfl c1648)
  refine V_iload 1655 1 rfl dL_law__1653 rfl ?_
  refine V_if_ne 1670 1658 rfl dL_law__1655 rfl (fun c1655 => ?_) (fun c1655 => ?_)
  · refine V_goto 2352 rfl dL_law__1670 ?_
    exact V_lv [2, 3, 4, 5, 6] rfl (nd _ _ _ _ _ _ (by omega) (by omega) (SI_aft hS _) hC2 hM2)
  · refine V_aload_n 1659 3 rfl _ rfl rfl dL_law__1658 rfl ?_
    refine V_iconst 1660 (0) rfl dL_law__1659 rfl ?_
    refine V_lald 1661 102 1 (J1 102 0) rfl (vp_in_nI (n := 0) (N := 1) (by decide) (by decide)) rfl (by decide) dL_law__1660 rfl ?_
    refine V_iload 1663 0 rfl dL_law__1661 rfl ?_
    refine V_i2l 1664 dL_law__1663 rfl ?_
    refine V_lcmp 1665 dL_law__1664 rfl ?_
    have hz0 : lg_cmp (J1 102 0) w2.toInt64 = 0 := by
      obtain ⟨v, ev⟩ := th0 (cd := 2) (by decide) (by decide) (ekk.symm.trans (by first | exact c1655 | exact Classical.not_not.mp c1655))
      exact lg_eq (by rw [hw2 v ev]; exact hJ1 v ev)
    refine V_if_eq 1670 1668 rfl dL_law__1665 rfl (fun c1665 => ?_) (fun c1665 => absurd hz0 c1665)
    refine V_goto 2352 rfl dL_law__1670 ?_
    exact V_lv [2, 3, 4, 5, 6] rfl (nd _ _ _ _ _ _ (by omega) (by omega) (SI_aft hS _) hC2 hM2)
theorem lw_squall {G : Gx} {d : Nat} {I : FI} {R : FR} {J : FJ} {s : SG} {i k sl : Nat} (hX : SC I R s) (hM : SM I R s) (hS : SI s) (hL : 9 * i + 9 ≤ g_L G) (hL2 : g_L G ≤ 4608) (hk : k ≤ 1000 + 8 * i) (hsl : sl ≤ 100000 + 48 * i) (nd : ∀ k' sl' s' I' R' J', k' ≤ 1008 + 8 * i → sl' ≤ 100048 + 48 * i → SI s' → SC I' R' s' → SM I' R' s' → V G mL_law_ (d + 902) 601024 7293034 k' sl' 2352 (LV G i) [] 103 I' R' J' QL) : V G mL_law_ (d + 902) 601024 7293034 k sl 1673 (LV G i) [] 103 I R J QL := by
  refine V_aload_n 1674 3 rfl _ rfl rfl dL_law__1673 rfl ?_
  refine V_aload_n 1675 4 rfl _ rfl rfl dL_law__1674 rfl ?_
  refine V_iload 1677 0 rfl dL_law__1675 rfl ?_
  refine V_iconst 1678 (1) rfl dL_law__1677 rfl ?_
  refine V_iadd 1679 dL_law__1678 rfl ?_
  refine V_rw (nI_add (9 * i) 1) ?_
  refine V_sld 1680 (sx G i 1) rfl (vp_in_nI (by omega) (by omega)) dL_law__1679 rfl ?_
  refine V_aload_n 1681 4 rfl _ rfl rfl dL_law__1680 rfl ?_
  refine V_iload 1683 0 rfl dL_law__1681 rfl ?_
  refine V_iconst 1684 (2) rfl dL_law__1683 rfl ?_
  refine V_iadd 1685 dL_law__1684 rfl ?_
  refine V_rw (nI_add (9 * i) 2) ?_
  refine V_sld 1686 (sx G i 2) rfl (vp_in_nI (by omega) (by omega)) dL_law__1685 rfl ?_
  refine V_aload_n 1687 4 rfl _ rfl rfl dL_law__1686 rfl ?_
  refine V_iload 1689 0 rfl dL_law__1687 rfl ?_
  refine V_iconst 1690 (3) rfl dL_law__1689 rfl ?_
  refine V_iadd 1691 dL_law__1690 rfl ?_
  refine V_rw (nI_add (9 * i) 3) ?_
  refine V_sld 1692 (sx G i 3) rfl (vp_in_nI (by omega) (by omega)) dL_law__1691 rfl ?_
  refine V_aload_n 1693 1 rfl _ rfl rfl dL_law__1692 rfl ?_
  refine V_callSw (K' := 8) (S' := 48) 1696 5 [rf G 0, .int (sx G i 1), .int (sx G i 2), .int (sx G i 3), rf G 102] mkL_squall lkL_191 rfl (Nat.le_of_ble_eq_true rfl) (by omega) (by omega) (Nat.le_of_ble_eq_true rfl) rfl rfl dL_law__1693 rfl (h_squall (d := d) (x := qT_squall s (sx G i 1) (sx G i 2) (sx G i 3)) qk_squall (fun Q' h => tC_squall hX hS h) (fun I1 R1 J1 hC1 hF1 hJ1 => ?_))
  refine Kq_i (k' := (k + 8)) (sl' := (sl + 48)) rfl rfl ?_
  have hM1 := hM.cl hF1
  refine V_topi (fun kk ekk => ?_)
  refine V_istore 1698 [(5, .int kk), (4, .int (nI (9 * i))), (3, rf G 102), (2, rf G 69), (1, rf G 0), (0, .ref (g_s G))] (by decide) rfl dL_law__1696 rfl ?_
  refine V_aload_n 1699 3 rfl _ rfl rfl dL_law__1698 rfl ?_
  refine V_aload_n 1700 5 rfl _ rfl rfl dL_law__1699 rfl ?_
  refine V_iload 1702 1 rfl dL_law__1700 rfl ?_
  refine V_iconst 1703 (1) rfl dL_law__1702 rfl ?_
  refine V_iadd 1704 dL_law__1703 rfl ?_
  refine V_rw (nI_add (9 * i) 1) ?_
  refine V_sld 1705 (sx G i 1) rfl (vp_in_nI (by omega) (by omega)) dL_law__1704 rfl ?_
  refine V_aload_n 1706 5 rfl _ rfl rfl dL_law__1705 rfl ?_
  refine V_iload 1708 1 rfl dL_law__1706 rfl ?_
  refine V_iconst 1709 (2) rfl dL_law__1708 rfl ?_
  refine V_iadd 1710 dL_law__1709 rfl ?_
  refine V_rw (nI_add (9 * i) 2) ?_
  refine V_sld 1711 (sx G i 2) rfl (vp_in_nI (by omega) (by omega)) dL_law__1710 rfl ?_
  refine V_aload_n 1712 5 rfl _ rfl rfl dL_law__1711 rfl ?_
  refine V_iload 1714 1 rfl dL_law__1712 rfl ?_
  refine V_iconst 1715 (3) rfl dL_law__1714 rfl ?_
  refine V_iadd 1716 dL_law__1715 rfl ?_
  refine V_rw (nI_add (9 * i) 3) ?_
  refine V_sld 1717 (sx G i 3) rfl (vp_in_nI (by omega) (by omega)) dL_law__1716 rfl ?_
  refine V_callV (K' := 0) (S' := 0) 1720 69 11 3 [.int (sx G i 1), .int (sx G i 2), .int (sx G i 3)] mkX11_squall lkL_193 (by decide) rfl rfl (by decide) rfl (Nat.le_of_ble_eq_true rfl) (by omega) (by omega) (Nat.le_of_ble_eq_true rfl) rfl rfl dL_law__1717 rfl (tM_squall (d := d + 1) hM1 hS (HRL.i (fun I2 w2 hM2 hg2 ht2 hw2 => ?_)))
  refine Kq_i (k' := (k + 8)) (sl' := (sl + 48)) rfl rfl ?_
  have hC2 := hC1.rf hg2
  refine V_lstore 1722 [(6, .long w2), (5, .int kk), (4, .int (nI (9 * i))), (3, rf G 102), (2, rf G 69), (1, rf G 0), (0, .ref (g_s G))] (by decide) rfl dL_law__1720 rfl ?_
  refine V_aload_n 1723 4 rfl _ rfl rfl dL_law__1722 rfl ?_
  refine V_callV (K' := 0) (S' := 0) 1726 69 11 0 [] mkX11_thrown lkL_118 (by decide) rfl rfl (by decide) rfl (Nat.le_of_ble_eq_true rfl) (by omega) (by omega) (Nat.le_of_ble_eq_true rfl) rfl rfl dL_law__1723 rfl (c_X11_thrown ?_)
  refine Kq_i (k' := (k + 8)) (sl' := (sl + 48)) rfl rfl ?_
  refine V_rw (ht2.trans ekk.symm) ?_
  refine V_iload 1728 1 rfl dL_law__1726 rfl ?_
  refine V_icmp_eq 1733 1731 rfl dL_law__1728 rfl (fun c1728 => ?_) (fun c1728 => absurd rfl c1728)
  refine V_iload 1735 1 rfl dL_law__1733 rfl ?_
  refine V_if_ne 1749 1738 rfl dL_law__1735 rfl (fun c1735 => ?_) (fun c1735 => ?_)
  · refine V_goto 2352 rfl dL_law__1749 ?_
    exact V_lv [2, 3, 4, 5, 6] rfl (nd _ _ _ _ _ _ (by omega) (by omega) (SI_aftL hS _) hC2 hM2)
  · refine V_aload_n 1739 3 rfl _ rfl rfl dL_law__1738 rfl ?_
    refine V_iconst 1740 (0) rfl dL_law__1739 rfl ?_
    refine V_lald 1741 102 1 (J1 102 0) rfl (vp_in_nI (n := 0) (N := 1) (by decide) (by decide)) rfl (by decide) dL_law__1740 rfl ?_
    refine V_lload 1743 0 rfl dL_law__1741 rfl ?_
    refine V_lcmp 1744 dL_law__1743 rfl ?_
    have hz0 : lg_cmp (J1 102 0) w2 = 0 := by
      obtain ⟨v, ev⟩ := th0L (cd := 1) (by decide) (by decide) (ekk.symm.trans (by first | exact c1735 | exact Classical.not_not.mp c1735))
      exact lg_eq (by rw [hw2 v ev]; exact hJ1 v ev)
    refine V_if_eq 1749 1747 rfl dL_law__1744 rfl (fun c1744 => ?_) (fun c1744 => absurd hz0 c1744)
    refine V_goto 2352 rfl dL_law__1749 ?_
    exact V_lv [2, 3, 4, 5, 6] rfl (nd _ _ _ _ _ _ (by omega) (by omega) (SI_aftL hS _) hC2 hM2)
theorem lw_two {G : Gx} {d : Nat} {I : FI} {R : FR} {J : FJ} {s : SG} {i k sl : Nat} (hX : SC I R s) (hM : SM I R s) (hS : SI s) (hL : 9 * i + 9 ≤ g_L G) (hL2 : g_L G ≤ 4608) (hk : k ≤ 1000 + 8 * i) (hsl : sl ≤ 100000 + 48 * i) (nd : ∀ k' sl' s' I' R' J', k' ≤ 1008 + 8 * i → sl' ≤ 100048 + 48 * i → SI s' → SC I' R' s' → SM I' R' s' → V G mL_law_ (d + 902) 601024 7293034 k' sl' 2352 (LV G i) [] 103 I' R' J' QL) : V G mL_law_ (d + 902) 601024 7293034 k sl 1752 (LV G i) [] 103 I R J QL := by
  refine V_aload_n 1753 3 rfl _ rfl rfl dL_law__1752 rfl ?_
  refine V_aload_n 1754 4 rfl _ rfl rfl dL_law__1753 rfl ?_
  refine V_iload 1756 0 rfl dL_law__1754 rfl ?_
  refine V_iconst 1757 (1) rfl dL_law__1756 rfl ?_
  refine V_iadd 1758 dL_law__1757 rfl ?_
  refine V_rw (nI_add (9 * i) 1) ?_
  refine V_sld 1759 (sx G i 1) rfl (vp_in_nI (by omega) (by omega)) dL_law__1758 rfl ?_
  refine V_aload_n 1760 4 rfl _ rfl rfl dL_law__1759 rfl ?_
  refine V_iload 1762 0 rfl dL_law__1760 rfl ?_
  refine V_iconst 1763 (2) rfl dL_law__1762 rfl ?_
  refine V_iadd 1764 dL_law__1763 rfl ?_
  refine V_rw (nI_add (9 * i) 2) ?_
  refine V_sld 1765 (sx G i 2) rfl (vp_in_nI (by omega) (by omega)) dL_law__1764 rfl ?_
  refine V_aload_n 1766 4 rfl _ rfl rfl dL_law__1765 rfl ?_
  refine V_iload 1768 0 rfl dL_law__1766 rfl ?_
  refine V_iconst 1769 (3) rfl dL_law__1768 rfl ?_
  refine V_iadd 1770 dL_law__1769 rfl ?_
  refine V_rw (nI_add (9 * i) 3) ?_
  refine V_sld 1771 (sx G i 3) rfl (vp_in_nI (by omega) (by omega)) dL_law__1770 rfl ?_
  refine V_aload_n 1772 1 rfl _ rfl rfl dL_law__1771 rfl ?_
  refine V_callSw (K' := 8) (S' := 48) 1775 5 [rf G 0, .int (sx G i 1), .int (sx G i 2), .int (sx G i 3), rf G 102] mkL_two lkL_194 rfl (Nat.le_of_ble_eq_true rfl) (by omega) (by omega) (Nat.le_of_ble_eq_true rfl) rfl rfl dL_law__1772 rfl (h_two (d := d) (x := qT_two s (sx G i 1) (sx G i 2) (sx G i 3)) qk_two (fun Q' h => tC_two hX hS h) (fun I1 R1 J1 hC1 hF1 hJ1 => ?_))
  refine Kq_i (k' := (k + 8)) (sl' := (sl + 48)) rfl rfl ?_
  have hM1 := hM.cl hF1
  refine V_topi (fun kk ekk => ?_)
  refine V_istore 1777 [(5, .int kk), (4, .int (nI (9 * i))), (3, rf G 102), (2, rf G 69), (1, rf G 0), (0, .ref (g_s G))] (by decide) rfl dL_law__1775 rfl ?_
  refine V_aload_n 1778 3 rfl _ rfl rfl dL_law__1777 rfl ?_
  refine V_aload_n 1779 5 rfl _ rfl rfl dL_law__1778 rfl ?_
  refine V_iload 1781 1 rfl dL_law__1779 rfl ?_
  refine V_iconst 1782 (1) rfl dL_law__1781 rfl ?_
  refine V_iadd 1783 dL_law__1782 rfl ?_
  refine V_rw (nI_add (9 * i) 1) ?_
  refine V_sld 1784 (sx G i 1) rfl (vp_in_nI (by omega) (by omega)) dL_law__1783 rfl ?_
  refine V_aload_n 1785 5 rfl _ rfl rfl dL_law__1784 rfl ?_
  refine V_iload 1787 1 rfl dL_law__1785 rfl ?_
  refine V_iconst 1788 (2) rfl dL_law__1787 rfl ?_
  refine V_iadd 1789 dL_law__1788 rfl ?_
  refine V_rw (nI_add (9 * i) 2) ?_
  refine V_sld 1790 (sx G i 2) rfl (vp_in_nI (by omega) (by omega)) dL_law__1789 rfl ?_
  refine V_aload_n 1791 5 rfl _ rfl rfl dL_law__1790 rfl ?_
  refine V_iload 1793 1 rfl dL_law__1791 rfl ?_
  refine V_iconst 1794 (3) rfl dL_law__1793 rfl ?_
  refine V_iadd 1795 dL_law__1794 rfl ?_
  refine V_rw (nI_add (9 * i) 3) ?_
  refine V_sld 1796 (sx G i 3) rfl (vp_in_nI (by omega) (by omega)) dL_law__1795 rfl ?_
  refine V_callV (K' := 0) (S' := 0) 1799 69 11 3 [.int (sx G i 1), .int (sx G i 2), .int (sx G i 3)] mkX11_two lkL_196 (by decide) rfl rfl (by decide) rfl (Nat.le_of_ble_eq_true rfl) (by omega) (by omega) (Nat.le_of_ble_eq_true rfl) rfl rfl dL_law__1796 rfl (tM_two (d := d + 1) hM1 hS (HR.i (fun I2 w2 hM2 hg2 ht2 hw2 => ?_)))
  refine Kq_i (k' := (k + 8)) (sl' := (sl + 48)) rfl rfl ?_
  have hC2 := hC1.rf hg2
  refine V_istore 1801 [(6, .int w2), (5, .int kk), (4, .int (nI (9 * i))), (3, rf G 102), (2, rf G 69), (1, rf G 0), (0, .ref (g_s G))] (by decide) rfl dL_law__1799 rfl ?_
  refine V_aload_n 1802 4 rfl _ rfl rfl dL_law__1801 rfl ?_
  refine V_callV (K' := 0) (S' := 0) 1805 69 11 0 [] mkX11_thrown lkL_118 (by decide) rfl rfl (by decide) rfl (Nat.le_of_ble_eq_true rfl) (by omega) (by omega) (Nat.le_of_ble_eq_true rfl) rfl rfl dL_law__1802 rfl (c_X11_thrown ?_)
  refine Kq_i (k' := (k + 8)) (sl' := (sl + 48)) rfl rfl ?_
  refine V_rw (ht2.trans ekk.symm) ?_
  refine V_iload 1807 1 rfl dL_law__1805 rfl ?_
  refine V_icmp_eq 1812 1810 rfl dL_law__1807 rfl (fun c1807 => ?_) (fun c1807 => absurd rfl c1807)
  refine V_iload 1814 1 rfl dL_law__1812 rfl ?_
  refine V_if_ne 1829 1817 rfl dL_law__1814 rfl (fun c1814 => ?_) (fun c1814 => ?_)
  · refine V_goto 2352 rfl dL_law__1829 ?_
    exact V_lv [2, 3, 4, 5, 6] rfl (nd _ _ _ _ _ _ (by omega) (by omega) (SI_aft hS _) hC2 hM2)
  · refine V_aload_n 1818 3 rfl _ rfl rfl dL_law__1817 rfl ?_
    refine V_iconst 1819 (0) rfl dL_law__1818 rfl ?_
    refine V_lald 1820 102 1 (J1 102 0) rfl (vp_in_nI (n := 0) (N := 1) (by decide) (by decide)) rfl (by decide) dL_law__1819 rfl ?_
    refine V_iload 1822 0 rfl dL_law__1820 rfl ?_
    refine V_i2l 1823 dL_law__1822 rfl ?_
    refine V_lcmp 1824 dL_law__1823 rfl ?_
    have hz0 : lg_cmp (J1 102 0) w2.toInt64 = 0 := by
      obtain ⟨v, ev⟩ := th0 (cd := 1) (by decide) (by decide) (ekk.symm.trans (by first | exact c1814 | exact Classical.not_not.mp c1814))
      exact lg_eq (by rw [hw2 v ev]; exact hJ1 v ev)
    refine V_if_eq 1829 1827 rfl dL_law__1824 rfl (fun c1824 => ?_) (fun c1824 => absurd hz0 c1824)
    refine V_goto 2352 rfl dL_law__1829 ?_
    exact V_lv [2, 3, 4, 5, 6] rfl (nd _ _ _ _ _ _ (by omega) (by omega) (SI_aft hS _) hC2 hM2)
theorem lw_share {G : Gx} {d : Nat} {I : FI} {R : FR} {J : FJ} {s : SG} {i k sl : Nat} (hX : SC I R s) (hM : SM I R s) (hS : SI s) (hL : 9 * i + 9 ≤ g_L G) (hL2 : g_L G ≤ 4608) (hk : k ≤ 1000 + 8 * i) (hsl : sl ≤ 100000 + 48 * i) (nd : ∀ k' sl' s' I' R' J', k' ≤ 1008 + 8 * i → sl' ≤ 100048 + 48 * i → SI s' → SC I' R' s' → SM I' R' s' → V G mL_law_ (d + 902) 601024 7293034 k' sl' 2352 (LV G i) [] 103 I' R' J' QL) : V G mL_law_ (d + 902) 601024 7293034 k sl 1832 (LV G i) [] 103 I R J QL := by
  refine V_aload_n 1833 3 rfl _ rfl rfl dL_law__1832 rfl ?_
  refine V_aload_n 1834 4 rfl _ rfl rfl dL_law__1833 rfl ?_
  refine V_iload 1836 0 rfl dL_law__1834 rfl ?_
  refine V_iconst 1837 (1) rfl dL_law__1836 rfl ?_
  refine V_iadd 1838 dL_law__1837 rfl ?_
  refine V_rw (nI_add (9 * i) 1) ?_
  refine V_sld 1839 (sx G i 1) rfl (vp_in_nI (by omega) (by omega)) dL_law__1838 rfl ?_
  refine V_aload_n 1840 4 rfl _ rfl rfl dL_law__1839 rfl ?_
  refine V_iload 1842 0 rfl dL_law__1840 rfl ?_
  refine V_iconst 1843 (2) rfl dL_law__1842 rfl ?_
  refine V_iadd 1844 dL_law__1843 rfl ?_
  refine V_rw (nI_add (9 * i) 2) ?_
  refine V_sld 1845 (sx G i 2) rfl (vp_in_nI (by omega) (by omega)) dL_law__1844 rfl ?_
  refine V_aload_n 1846 4 rfl _ rfl rfl dL_law__1845 rfl ?_
  refine V_iload 1848 0 rfl dL_law__1846 rfl ?_
  refine V_iconst 1849 (3) rfl dL_law__1848 rfl ?_
  refine V_iadd 1850 dL_law__1849 rfl ?_
  refine V_rw (nI_add (9 * i) 3) ?_
  refine V_sld 1851 (sx G i 3) rfl (vp_in_nI (by omega) (by omega)) dL_law__1850 rfl ?_
  refine V_aload_n 1852 1 rfl _ rfl rfl dL_law__1851 rfl ?_
  refine V_callSw (K' := 8) (S' := 48) 1855 5 [rf G 0, .int (sx G i 1), .int (sx G i 2), .int (sx G i 3), rf G 102] mkL_share lkL_197 rfl (Nat.le_of_ble_eq_true rfl) (by omega) (by omega) (Nat.le_of_ble_eq_true rfl) rfl rfl dL_law__1852 rfl (h_share (d := d) (x := qT_share s (sx G i 1) (sx G i 2) (sx G i 3)) qk_share (fun Q' h => tC_share hX hS h) (fun I1 R1 J1 hC1 hF1 hJ1 => ?_))
  refine Kq_i (k' := (k + 8)) (sl' := (sl + 48)) rfl rfl ?_
  have hM1 := hM.cl hF1
  refine V_topi (fun kk ekk => ?_)
  refine V_istore 1857 [(5, .int kk), (4, .int (nI (9 * i))), (3, rf G 102), (2, rf G 69), (1, rf G 0), (0, .ref (g_s G))] (by decide) rfl dL_law__1855 rfl ?_
  refine V_aload_n 1858 3 rfl _ rfl rfl dL_law__1857 rfl ?_
  refine V_aload_n 1859 5 rfl _ rfl rfl dL_law__1858 rfl ?_
  refine V_iload 1861 1 rfl dL_law__1859 rfl ?_
  refine V_iconst 1862 (1) rfl dL_law__1861 rfl ?_
  refine V_iadd 1863 dL_law__1862 rfl ?_
  refine V_rw (nI_add (9 * i) 1) ?_
  refine V_sld 1864 (sx G i 1) rfl (vp_in_nI (by omega) (by omega)) dL_law__1863 rfl ?_
  refine V_aload_n 1865 5 rfl _ rfl rfl dL_law__1864 rfl ?_
  refine V_iload 1867 1 rfl dL_law__1865 rfl ?_
  refine V_iconst 1868 (2) rfl dL_law__1867 rfl ?_
  refine V_iadd 1869 dL_law__1868 rfl ?_
  refine V_rw (nI_add (9 * i) 2) ?_
  refine V_sld 1870 (sx G i 2) rfl (vp_in_nI (by omega) (by omega)) dL_law__1869 rfl ?_
  refine V_aload_n 1871 5 rfl _ rfl rfl dL_law__1870 rfl ?_
  refine V_iload 1873 1 rfl dL_law__1871 rfl ?_
  refine V_iconst 1874 (3) rfl dL_law__1873 rfl ?_
  refine V_iadd 1875 dL_law__1874 rfl ?_
  refine V_rw (nI_add (9 * i) 3) ?_
  refine V_sld 1876 (sx G i 3) rfl (vp_in_nI (by omega) (by omega)) dL_law__1875 rfl ?_
  refine V_callV (K' := 0) (S' := 0) 1879 69 11 3 [.int (sx G i 1), .int (sx G i 2), .int (sx G i 3)] mkX11_share lkL_199 (by decide) rfl rfl (by decide) rfl (Nat.le_of_ble_eq_true rfl) (by omega) (by omega) (Nat.le_of_ble_eq_true rfl) rfl rfl dL_law__1876 rfl (tM_share (d := d + 1) hM1 hS (HR.i (fun I2 w2 hM2 hg2 ht2 hw2 => ?_)))
  refine Kq_i (k' := (k + 8)) (sl' := (sl + 48)) rfl rfl ?_
  have hC2 := hC1.rf hg2
  refine V_istore 1881 [(6, .int w2), (5, .int kk), (4, .int (nI (9 * i))), (3, rf G 102), (2, rf G 69), (1, rf G 0), (0, .ref (g_s G))] (by decide) rfl dL_law__1879 rfl ?_
  refine V_aload_n 1882 4 rfl _ rfl rfl dL_law__1881 rfl ?_
  refine V_callV (K' := 0) (S' := 0) 1885 69 11 0 [] mkX11_thrown lkL_118 (by decide) rfl rfl (by decide) rfl (Nat.le_of_ble_eq_true rfl) (by omega) (by omega) (Nat.le_of_ble_eq_true rfl) rfl rfl dL_law__1882 rfl (c_X11_thrown ?_)
  refine Kq_i (k' := (k + 8)) (sl' := (sl + 48)) rfl rfl ?_
  refine V_rw (ht2.trans ekk.symm) ?_
  refine V_iload 1887 1 rfl dL_law__1885 rfl ?_
  refine V_icmp_eq 1892 1890 rfl dL_law__1887 rfl (fun c1887 => ?_) (fun c1887 => absurd rfl c1887)
  refine V_iload 1894 1 rfl dL_law__1892 rfl ?_
  refine V_if_ne 1909 1897 rfl dL_law__1894 rfl (fun c1894 => ?_) (fun c1894 => ?_)
  · refine V_goto 2352 rfl dL_law__1909 ?_
    exact V_lv [2, 3, 4, 5, 6] rfl (nd _ _ _ _ _ _ (by omega) (by omega) (SI_aft hS _) hC2 hM2)
  · refine V_aload_n 1898 3 rfl _ rfl rfl dL_law__1897 rfl ?_
    refine V_iconst 1899 (0) rfl dL_law__1898 rfl ?_
    refine V_lald 1900 102 1 (J1 102 0) rfl (vp_in_nI (n := 0) (N := 1) (by decide) (by decide)) rfl (by decide) dL_law__1899 rfl ?_
    refine V_iload 1902 0 rfl dL_law__1900 rfl ?_
    refine V_i2l 1903 dL_law__1902 rfl ?_
    refine V_lcmp 1904 dL_law__1903 rfl ?_
    have hz0 : lg_cmp (J1 102 0) w2.toInt64 = 0 := by
      obtain ⟨v, ev⟩ := th0 (cd := 2) (by decide) (by decide) (ekk.symm.trans (by first | exact c1894 | exact Classical.not_not.mp c1894))
      exact lg_eq (by rw [hw2 v ev]; exact hJ1 v ev)
    refine V_if_eq 1909 1907 rfl dL_law__1904 rfl (fun c1904 => ?_) (fun c1904 => absurd hz0 c1904)
    refine V_goto 2352 rfl dL_law__1909 ?_
    exact V_lv [2, 3, 4, 5, 6] rfl (nd _ _ _ _ _ _ (by omega) (by omega) (SI_aft hS _) hC2 hM2)
theorem lw_best {G : Gx} {d : Nat} {I : FI} {R : FR} {J : FJ} {s : SG} {i k sl : Nat} (hX : SC I R s) (hM : SM I R s) (hS : SI s) (hL : 9 * i + 9 ≤ g_L G) (hL2 : g_L G ≤ 4608) (hk : k ≤ 1000 + 8 * i) (hsl : sl ≤ 100000 + 48 * i) (nd : ∀ k' sl' s' I' R' J', k' ≤ 1008 + 8 * i → sl' ≤ 100048 + 48 * i → SI s' → SC I' R' s' → SM I' R' s' → V G mL_law_ (d + 902) 601024 7293034 k' sl' 2352 (LV G i) [] 103 I' R' J' QL) : V G mL_law_ (d + 902) 601024 7293034 k sl 1912 (LV G i) [] 103 I R J QL := by
  refine V_aload_n 1913 3 rfl _ rfl rfl dL_law__1912 rfl ?_
  refine V_aload_n 1914 4 rfl _ rfl rfl dL_law__1913 rfl ?_
  refine V_iload 1916 0 rfl dL_law__1914 rfl ?_
  refine V_iconst 1917 (1) rfl dL_law__1916 rfl ?_
  refine V_iadd 1918 dL_law__1917 rfl ?_
  refine V_rw (nI_add (9 * i) 1) ?_
  refine V_sld 1919 (sx G i 1) rfl (vp_in_nI (by omega) (by omega)) dL_law__1918 rfl ?_
  refine V_aload_n 1920 1 rfl _ rfl rfl dL_law__1919 rfl ?_
  refine V_callSw (K' := 8) (S' := 48) 1923 3 [rf G 0, .int (sx G i 1), rf G 102] mkL_best lkL_200 rfl (Nat.le_of_ble_eq_true rfl) (by omega) (by omega) (Nat.le_of_ble_eq_true rfl) rfl rfl dL_law__1920 rfl (h_best (d := d) (x := qT_best s (sx G i 1)) qk_best (fun Q' h => tC_best hX hS h) (fun I1 R1 J1 hC1 hF1 hJ1 => ?_))
  refine Kq_i (k' := (k + 8)) (sl' := (sl + 48)) rfl rfl ?_
  have hM1 := hM.cl hF1
  refine V_topi (fun kk ekk => ?_)
  refine V_istore 1925 [(5, .int kk), (4, .int (nI (9 * i))), (3, rf G 102), (2, rf G 69), (1, rf G 0), (0, .ref (g_s G))] (by decide) rfl dL_law__1923 rfl ?_
  refine V_aload_n 1926 3 rfl _ rfl rfl dL_law__1925 rfl ?_
  refine V_aload_n 1927 5 rfl _ rfl rfl dL_law__1926 rfl ?_
  refine V_iload 1929 1 rfl dL_law__1927 rfl ?_
  refine V_iconst 1930 (1) rfl dL_law__1929 rfl ?_
  refine V_iadd 1931 dL_law__1930 rfl ?_
  refine V_rw (nI_add (9 * i) 1) ?_
  refine V_sld 1932 (sx G i 1) rfl (vp_in_nI (by omega) (by omega)) dL_law__1931 rfl ?_
  refine V_callV (K' := 0) (S' := 0) 1935 69 11 1 [.int (sx G i 1)] mkX11_best lkL_202 (by decide) rfl rfl (by decide) rfl (Nat.le_of_ble_eq_true rfl) (by omega) (by omega) (Nat.le_of_ble_eq_true rfl) rfl rfl dL_law__1932 rfl (tM_best (d := d + 1) hM1 hS (HR.i (fun I2 w2 hM2 hg2 ht2 hw2 => ?_)))
  refine Kq_i (k' := (k + 8)) (sl' := (sl + 48)) rfl rfl ?_
  have hC2 := hC1.rf hg2
  refine V_istore 1937 [(6, .int w2), (5, .int kk), (4, .int (nI (9 * i))), (3, rf G 102), (2, rf G 69), (1, rf G 0), (0, .ref (g_s G))] (by decide) rfl dL_law__1935 rfl ?_
  refine V_aload_n 1938 4 rfl _ rfl rfl dL_law__1937 rfl ?_
  refine V_callV (K' := 0) (S' := 0) 1941 69 11 0 [] mkX11_thrown lkL_118 (by decide) rfl rfl (by decide) rfl (Nat.le_of_ble_eq_true rfl) (by omega) (by omega) (Nat.le_of_ble_eq_true rfl) rfl rfl dL_law__1938 rfl (c_X11_thrown ?_)
  refine Kq_i (k' := (k + 8)) (sl' := (sl + 48)) rfl rfl ?_
  refine V_rw (ht2.trans ekk.symm) ?_
  refine V_iload 1943 1 rfl dL_law__1941 rfl ?_
  refine V_icmp_eq 1948 1946 rfl dL_law__1943 rfl (fun c1943 => ?_) (fun c1943 => absurd rfl c1943)
  refine V_iload 1950 1 rfl dL_law__1948 rfl ?_
  refine V_if_ne 1965 1953 rfl dL_law__1950 rfl (fun c1950 => ?_) (fun c1950 => ?_)
  · refine V_goto 2352 rfl dL_law__1965 ?_
    exact V_lv [2, 3, 4, 5, 6] rfl (nd _ _ _ _ _ _ (by omega) (by omega) (SI_aft hS _) hC2 hM2)
  · refine V_aload_n 1954 3 rfl _ rfl rfl dL_law__1953 rfl ?_
    refine V_iconst 1955 (0) rfl dL_law__1954 rfl ?_
    refine V_lald 1956 102 1 (J1 102 0) rfl (vp_in_nI (n := 0) (N := 1) (by decide) (by decide)) rfl (by decide) dL_law__1955 rfl ?_
    refine V_iload 1958 0 rfl dL_law__1956 rfl ?_
    refine V_i2l 1959 dL_law__1958 rfl ?_
    refine V_lcmp 1960 dL_law__1959 rfl ?_
    have hz0 : lg_cmp (J1 102 0) w2.toInt64 = 0 := by
      obtain ⟨v, ev⟩ := th0 (cd := 1) (by decide) (by decide) (ekk.symm.trans (by first | exact c1950 | exact Classical.not_not.mp c1950))
      exact lg_eq (by rw [hw2 v ev]; exact hJ1 v ev)
    refine V_if_eq 1965 1963 rfl dL_law__1960 rfl (fun c1960 => ?_) (fun c1960 => absurd hz0 c1960)
    refine V_goto 2352 rfl dL_law__1965 ?_
    exact V_lv [2, 3, 4, 5, 6] rfl (nd _ _ _ _ _ _ (by omega) (by omega) (SI_aft hS _) hC2 hM2)
theorem lw_from {G : Gx} {d : Nat} {I : FI} {R : FR} {J : FJ} {s : SG} {i k sl : Nat} (hX : SC I R s) (hM : SM I R s) (hS : SI s) (hL : 9 * i + 9 ≤ g_L G) (hL2 : g_L G ≤ 4608) (hk : k ≤ 1000 + 8 * i) (hsl : sl ≤ 100000 + 48 * i) (nd : ∀ k' sl' s' I' R' J', k' ≤ 1008 + 8 * i → sl' ≤ 100048 + 48 * i → SI s' → SC I' R' s' → SM I' R' s' → V G mL_law_ (d + 902) 601024 7293034 k' sl' 2352 (LV G i) [] 103 I' R' J' QL) : V G mL_law_ (d + 902) 601024 7293034 k sl 1968 (LV G i) [] 103 I R J QL := by
  refine V_aload_n 1969 3 rfl _ rfl rfl dL_law__1968 rfl ?_
  refine V_aload_n 1970 4 rfl _ rfl rfl dL_law__1969 rfl ?_
  refine V_iload 1972 0 rfl dL_law__1970 rfl ?_
  refine V_iconst 1973 (1) rfl dL_law__1972 rfl ?_
  refine V_iadd 1974 dL_law__1973 rfl ?_
  refine V_rw (nI_add (9 * i) 1) ?_
  refine V_sld 1975 (sx G i 1) rfl (vp_in_nI (by omega) (by omega)) dL_law__1974 rfl ?_
  refine V_aload_n 1976 1 rfl _ rfl rfl dL_law__1975 rfl ?_
  refine V_callSw (K' := 8) (S' := 48) 1979 3 [rf G 0, .int (sx G i 1), rf G 102] mkL_from lkL_203 rfl (Nat.le_of_ble_eq_true rfl) (by omega) (by omega) (Nat.le_of_ble_eq_true rfl) rfl rfl dL_law__1976 rfl (h_from (d := d) (x := qT_from s (sx G i 1)) qk_from (fun Q' h => tC_from hX hS h) (fun I1 R1 J1 hC1 hF1 hJ1 => ?_))
  refine Kq_i (k' := (k + 8)) (sl' := (sl + 48)) rfl rfl ?_
  have hM1 := hM.cl hF1
  refine V_topi (fun kk ekk => ?_)
  refine V_istore 1981 [(5, .int kk), (4, .int (nI (9 * i))), (3, rf G 102), (2, rf G 69), (1, rf G 0), (0, .ref (g_s G))] (by decide) rfl dL_law__1979 rfl ?_
  refine V_aload_n 1982 3 rfl _ rfl rfl dL_law__1981 rfl ?_
  refine V_aload_n 1983 5 rfl _ rfl rfl dL_law__1982 rfl ?_
  refine V_iload 1985 1 rfl dL_law__1983 rfl ?_
  refine V_iconst 1986 (1) rfl dL_law__1985 rfl ?_
  refine V_iadd 1987 dL_law__1986 rfl ?_
  refine V_rw (nI_add (9 * i) 1) ?_
  refine V_sld 1988 (sx G i 1) rfl (vp_in_nI (by omega) (by omega)) dL_law__1987 rfl ?_
  refine V_callV (K' := 0) (S' := 0) 1991 69 11 1 [.int (sx G i 1)] mkX11_from lkL_205 (by decide) rfl rfl (by decide) rfl (Nat.le_of_ble_eq_true rfl) (by omega) (by omega) (Nat.le_of_ble_eq_true rfl) rfl rfl dL_law__1988 rfl (tM_from (d := d + 1) hM1 hS (HR.i (fun I2 w2 hM2 hg2 ht2 hw2 => ?_)))
  refine Kq_i (k' := (k + 8)) (sl' := (sl + 48)) rfl rfl ?_
  have hC2 := hC1.rf hg2
  refine V_istore 1993 [(6, .int w2), (5, .int kk), (4, .int (nI (9 * i))), (3, rf G 102), (2, rf G 69), (1, rf G 0), (0, .ref (g_s G))] (by decide) rfl dL_law__1991 rfl ?_
  refine V_aload_n 1994 4 rfl _ rfl rfl dL_law__1993 rfl ?_
  refine V_callV (K' := 0) (S' := 0) 1997 69 11 0 [] mkX11_thrown lkL_118 (by decide) rfl rfl (by decide) rfl (Nat.le_of_ble_eq_true rfl) (by omega) (by omega) (Nat.le_of_ble_eq_true rfl) rfl rfl dL_law__1994 rfl (c_X11_thrown ?_)
  refine Kq_i (k' := (k + 8)) (sl' := (sl + 48)) rfl rfl ?_
  refine V_rw (ht2.trans ekk.symm) ?_
  refine V_iload 1999 1 rfl dL_law__1997 rfl ?_
  refine V_icmp_eq 2004 2002 rfl dL_law__1999 rfl (fun c1999 => ?_) (fun c1999 => absurd rfl c1999)
  refine V_iload 2006 1 rfl dL_law__2004 rfl ?_
  refine V_if_ne 2021 2009 rfl dL_law__2006 rfl (fun c2006 => ?_) (fun c2006 => ?_)
  · refine V_goto 2352 rfl dL_law__2021 ?_
    exact V_lv [2, 3, 4, 5, 6] rfl (nd _ _ _ _ _ _ (by omega) (by omega) (SI_aft hS _) hC2 hM2)
  · refine V_aload_n 2010 3 rfl _ rfl rfl dL_law__2009 rfl ?_
    refine V_iconst 2011 (0) rfl dL_law__2010 rfl ?_
    refine V_lald 2012 102 1 (J1 102 0) rfl (vp_in_nI (n := 0) (N := 1) (by decide) (by decide)) rfl (by decide) dL_law__2011 rfl ?_
    refine V_iload 2014 0 rfl dL_law__2012 rfl ?_
    refine V_i2l 2015 dL_law__2014 rfl ?_
    refine V_lcmp 2016 dL_law__2015 rfl ?_
    have hz0 : lg_cmp (J1 102 0) w2.toInt64 = 0 := by
      obtain ⟨v, ev⟩ := th0 (cd := 1) (by decide) (by decide) (ekk.symm.trans (by first | exact c2006 | exact Classical.not_not.mp c2006))
      exact lg_eq (by rw [hw2 v ev]; exact hJ1 v ev)
    refine V_if_eq 2021 2019 rfl dL_law__2016 rfl (fun c2016 => ?_) (fun c2016 => absurd hz0 c2016)
    refine V_goto 2352 rfl dL_law__2021 ?_
    exact V_lv [2, 3, 4, 5, 6] rfl (nd _ _ _ _ _ _ (by omega) (by omega) (SI_aft hS _) hC2 hM2)
theorem lw_row {G : Gx} {d : Nat} {I : FI} {R : FR} {J : FJ} {s : SG} {i k sl : Nat} (hX : SC I R s) (hM : SM I R s) (hS : SI s) (hL : 9 * i + 9 ≤ g_L G) (hL2 : g_L G ≤ 4608) (hk : k ≤ 1000 + 8 * i) (hsl : sl ≤ 100000 + 48 * i) (nd : ∀ k' sl' s' I' R' J', k' ≤ 1008 + 8 * i → sl' ≤ 100048 + 48 * i → SI s' → SC I' R' s' → SM I' R' s' → V G mL_law_ (d + 902) 601024 7293034 k' sl' 2352 (LV G i) [] 103 I' R' J' QL) : V G mL_law_ (d + 902) 601024 7293034 k sl 2024 (LV G i) [] 103 I R J QL := by
  refine V_aload_n 2025 3 rfl _ rfl rfl dL_law__2024 rfl ?_
  refine V_aload_n 2026 4 rfl _ rfl rfl dL_law__2025 rfl ?_
  refine V_iload 2028 0 rfl dL_law__2026 rfl ?_
  refine V_iconst 2029 (1) rfl dL_law__2028 rfl ?_
  refine V_iadd 2030 dL_law__2029 rfl ?_
  refine V_rw (nI_add (9 * i) 1) ?_
  refine V_sld 2031 (sx G i 1) rfl (vp_in_nI (by omega) (by omega)) dL_law__2030 rfl ?_
  refine V_aload_n 2032 1 rfl _ rfl rfl dL_law__2031 rfl ?_
  refine V_callSw (K' := 8) (S' := 48) 2035 3 [rf G 0, .int (sx G i 1), rf G 102] mkL_row lkL_206 rfl (Nat.le_of_ble_eq_true rfl) (by omega) (by omega) (Nat.le_of_ble_eq_true rfl) rfl rfl dL_law__2032 rfl (h_row (d := d) (x := qT_row s (sx G i 1)) qk_row (fun Q' h => tC_row hX hS h) (fun I1 R1 J1 hC1 hF1 hJ1 => ?_))
  refine Kq_i (k' := (k + 8)) (sl' := (sl + 48)) rfl rfl ?_
  have hM1 := hM.cl hF1
  refine V_topi (fun kk ekk => ?_)
  refine V_istore 2037 [(5, .int kk), (4, .int (nI (9 * i))), (3, rf G 102), (2, rf G 69), (1, rf G 0), (0, .ref (g_s G))] (by decide) rfl dL_law__2035 rfl ?_
  refine V_aload_n 2038 3 rfl _ rfl rfl dL_law__2037 rfl ?_
  refine V_aload_n 2039 5 rfl _ rfl rfl dL_law__2038 rfl ?_
  refine V_iload 2041 1 rfl dL_law__2039 rfl ?_
  refine V_iconst 2042 (1) rfl dL_law__2041 rfl ?_
  refine V_iadd 2043 dL_law__2042 rfl ?_
  refine V_rw (nI_add (9 * i) 1) ?_
  refine V_sld 2044 (sx G i 1) rfl (vp_in_nI (by omega) (by omega)) dL_law__2043 rfl ?_
  refine V_callV (K' := 0) (S' := 0) 2047 69 11 1 [.int (sx G i 1)] mkX11_row lkL_208 (by decide) rfl rfl (by decide) rfl (Nat.le_of_ble_eq_true rfl) (by omega) (by omega) (Nat.le_of_ble_eq_true rfl) rfl rfl dL_law__2044 rfl (tM_row (d := d + 1) hM1 hS (HR.i (fun I2 w2 hM2 hg2 ht2 hw2 => ?_)))
  refine Kq_i (k' := (k + 8)) (sl' := (sl + 48)) rfl rfl ?_
  have hC2 := hC1.rf hg2
  refine V_istore 2049 [(6, .int w2), (5, .int kk), (4, .int (nI (9 * i))), (3, rf G 102), (2, rf G 69), (1, rf G 0), (0, .ref (g_s G))] (by decide) rfl dL_law__2047 rfl ?_
  refine V_aload_n 2050 4 rfl _ rfl rfl dL_law__2049 rfl ?_
  refine V_callV (K' := 0) (S' := 0) 2053 69 11 0 [] mkX11_thrown lkL_118 (by decide) rfl rfl (by decide) rfl (Nat.le_of_ble_eq_true rfl) (by omega) (by omega) (Nat.le_of_ble_eq_true rfl) rfl rfl dL_law__2050 rfl (c_X11_thrown ?_)
  refine Kq_i (k' := (k + 8)) (sl' := (sl + 48)) rfl rfl ?_
  refine V_rw (ht2.trans ekk.symm) ?_
  refine V_iload 2055 1 rfl dL_law__2053 rfl ?_
  refine V_icmp_eq 2060 2058 rfl dL_law__2055 rfl (fun c2055 => ?_) (fun c2055 => absurd rfl c2055)
  refine V_iload 2062 1 rfl dL_law__2060 rfl ?_
  refine V_if_ne 2077 2065 rfl dL_law__2062 rfl (fun c2062 => ?_) (fun c2062 => ?_)
  · refine V_goto 2352 rfl dL_law__2077 ?_
    exact V_lv [2, 3, 4, 5, 6] rfl (nd _ _ _ _ _ _ (by omega) (by omega) (SI_aft hS _) hC2 hM2)
  · refine V_aload_n 2066 3 rfl _ rfl rfl dL_law__2065 rfl ?_
    refine V_iconst 2067 (0) rfl dL_law__2066 rfl ?_
    refine V_lald 2068 102 1 (J1 102 0) rfl (vp_in_nI (n := 0) (N := 1) (by decide) (by decide)) rfl (by decide) dL_law__2067 rfl ?_
    refine V_iload 2070 0 rfl dL_law__2068 rfl ?_
    refine V_i2l 2071 dL_law__2070 rfl ?_
    refine V_lcmp 2072 dL_law__2071 rfl ?_
    have hz0 : lg_cmp (J1 102 0) w2.toInt64 = 0 := by
      obtain ⟨v, ev⟩ := th0 (cd := 1) (by decide) (by decide) (ekk.symm.trans (by first | exact c2062 | exact Classical.not_not.mp c2062))
      exact lg_eq (by rw [hw2 v ev]; exact hJ1 v ev)
    refine V_if_eq 2077 2075 rfl dL_law__2072 rfl (fun c2072 => ?_) (fun c2072 => absurd hz0 c2072)
    refine V_goto 2352 rfl dL_law__2077 ?_
    exact V_lv [2, 3, 4, 5, 6] rfl (nd _ _ _ _ _ _ (by omega) (by omega) (SI_aft hS _) hC2 hM2)
theorem lw_season {G : Gx} {d : Nat} {I : FI} {R : FR} {J : FJ} {s : SG} {i k sl : Nat} (hX : SC I R s) (hM : SM I R s) (hS : SI s) (hL : 9 * i + 9 ≤ g_L G) (hL2 : g_L G ≤ 4608) (hk : k ≤ 1000 + 8 * i) (hsl : sl ≤ 100000 + 48 * i) (nd : ∀ k' sl' s' I' R' J', k' ≤ 1008 + 8 * i → sl' ≤ 100048 + 48 * i → SI s' → SC I' R' s' → SM I' R' s' → V G mL_law_ (d + 902) 601024 7293034 k' sl' 2352 (LV G i) [] 103 I' R' J' QL) : V G mL_law_ (d + 902) 601024 7293034 k sl 2080 (LV G i) [] 103 I R J QL := by
  refine V_aload_n 2081 3 rfl _ rfl rfl dL_law__2080 rfl ?_
  refine V_aload_n 2082 4 rfl _ rfl rfl dL_law__2081 rfl ?_
  refine V_iload 2084 0 rfl dL_law__2082 rfl ?_
  refine V_iconst 2085 (1) rfl dL_law__2084 rfl ?_
  refine V_iadd 2086 dL_law__2085 rfl ?_
  refine V_rw (nI_add (9 * i) 1) ?_
  refine V_sld 2087 (sx G i 1) rfl (vp_in_nI (by omega) (by omega)) dL_law__2086 rfl ?_
  refine V_aload_n 2088 4 rfl _ rfl rfl dL_law__2087 rfl ?_
  refine V_iload 2090 0 rfl dL_law__2088 rfl ?_
  refine V_iconst 2091 (2) rfl dL_law__2090 rfl ?_
  refine V_iadd 2092 dL_law__2091 rfl ?_
  refine V_rw (nI_add (9 * i) 2) ?_
  refine V_sld 2093 (sx G i 2) rfl (vp_in_nI (by omega) (by omega)) dL_law__2092 rfl ?_
  refine V_aload_n 2094 4 rfl _ rfl rfl dL_law__2093 rfl ?_
  refine V_iload 2096 0 rfl dL_law__2094 rfl ?_
  refine V_iconst 2097 (3) rfl dL_law__2096 rfl ?_
  refine V_iadd 2098 dL_law__2097 rfl ?_
  refine V_rw (nI_add (9 * i) 3) ?_
  refine V_sld 2099 (sx G i 3) rfl (vp_in_nI (by omega) (by omega)) dL_law__2098 rfl ?_
  refine V_aload_n 2100 4 rfl _ rfl rfl dL_law__2099 rfl ?_
  refine V_iload 2102 0 rfl dL_law__2100 rfl ?_
  refine V_iconst 2103 (4) rfl dL_law__2102 rfl ?_
  refine V_iadd 2104 dL_law__2103 rfl ?_
  refine V_rw (nI_add (9 * i) 4) ?_
  refine V_sld 2105 (sx G i 4) rfl (vp_in_nI (by omega) (by omega)) dL_law__2104 rfl ?_
  refine V_aload_n 2106 1 rfl _ rfl rfl dL_law__2105 rfl ?_
  refine V_callSw (K' := 8) (S' := 48) 2109 6 [rf G 0, .int (sx G i 1), .int (sx G i 2), .int (sx G i 3), .int (sx G i 4), rf G 102] mkL_season lkL_209 rfl (Nat.le_of_ble_eq_true rfl) (by omega) (by omega) (Nat.le_of_ble_eq_true rfl) rfl rfl dL_law__2106 rfl (h_season (d := d) (x := qT_season s (sx G i 1) (sx G i 2) (sx G i 3) (sx G i 4)) qk_season (fun Q' h => tC_season hX hS h) (fun I1 R1 J1 hC1 hF1 hJ1 => ?_))
  refine Kq_i (k' := (k + 8)) (sl' := (sl + 48)) rfl rfl ?_
  have hM1 := hM.cl hF1
  refine V_topi (fun kk ekk => ?_)
  refine V_istore 2111 [(5, .int kk), (4, .int (nI (9 * i))), (3, rf G 102), (2, rf G 69), (1, rf G 0), (0, .ref (g_s G))] (by decide) rfl dL_law__2109 rfl ?_
  refine V_aload_n 2112 3 rfl _ rfl rfl dL_law__2111 rfl ?_
  refine V_aload_n 2113 5 rfl _ rfl rfl dL_law__2112 rfl ?_
  refine V_iload 2115 1 rfl dL_law__2113 rfl ?_
  refine V_iconst 2116 (1) rfl dL_law__2115 rfl ?_
  refine V_iadd 2117 dL_law__2116 rfl ?_
  refine V_rw (nI_add (9 * i) 1) ?_
  refine V_sld 2118 (sx G i 1) rfl (vp_in_nI (by omega) (by omega)) dL_law__2117 rfl ?_
  refine V_aload_n 2119 5 rfl _ rfl rfl dL_law__2118 rfl ?_
  refine V_iload 2121 1 rfl dL_law__2119 rfl ?_
  refine V_iconst 2122 (2) rfl dL_law__2121 rfl ?_
  refine V_iadd 2123 dL_law__2122 rfl ?_
  refine V_rw (nI_add (9 * i) 2) ?_
  refine V_sld 2124 (sx G i 2) rfl (vp_in_nI (by omega) (by omega)) dL_law__2123 rfl ?_
  refine V_aload_n 2125 5 rfl _ rfl rfl dL_law__2124 rfl ?_
  refine V_iload 2127 1 rfl dL_law__2125 rfl ?_
  refine V_iconst 2128 (3) rfl dL_law__2127 rfl ?_
  refine V_iadd 2129 dL_law__2128 rfl ?_
  refine V_rw (nI_add (9 * i) 3) ?_
  refine V_sld 2130 (sx G i 3) rfl (vp_in_nI (by omega) (by omega)) dL_law__2129 rfl ?_
  refine V_aload_n 2131 5 rfl _ rfl rfl dL_law__2130 rfl ?_
  refine V_iload 2133 1 rfl dL_law__2131 rfl ?_
  refine V_iconst 2134 (4) rfl dL_law__2133 rfl ?_
  refine V_iadd 2135 dL_law__2134 rfl ?_
  refine V_rw (nI_add (9 * i) 4) ?_
  refine V_sld 2136 (sx G i 4) rfl (vp_in_nI (by omega) (by omega)) dL_law__2135 rfl ?_
  refine V_callV (K' := 0) (S' := 0) 2139 69 11 4 [.int (sx G i 1), .int (sx G i 2), .int (sx G i 3), .int (sx G i 4)] mkX11_season lkL_211 (by decide) rfl rfl (by decide) rfl (Nat.le_of_ble_eq_true rfl) (by omega) (by omega) (Nat.le_of_ble_eq_true rfl) rfl rfl dL_law__2136 rfl (tM_season (d := d + 1) hM1 hS (HR.i (fun I2 w2 hM2 hg2 ht2 hw2 => ?_)))
  refine Kq_i (k' := (k + 8)) (sl' := (sl + 48)) rfl rfl ?_
  have hC2 := hC1.rf hg2
  refine V_istore 2141 [(6, .int w2), (5, .int kk), (4, .int (nI (9 * i))), (3, rf G 102), (2, rf G 69), (1, rf G 0), (0, .ref (g_s G))] (by decide) rfl dL_law__2139 rfl ?_
  refine V_aload_n 2142 4 rfl _ rfl rfl dL_law__2141 rfl ?_
  refine V_callV (K' := 0) (S' := 0) 2145 69 11 0 [] mkX11_thrown lkL_118 (by decide) rfl rfl (by decide) rfl (Nat.le_of_ble_eq_true rfl) (by omega) (by omega) (Nat.le_of_ble_eq_true rfl) rfl rfl dL_law__2142 rfl (c_X11_thrown ?_)
  refine Kq_i (k' := (k + 8)) (sl' := (sl + 48)) rfl rfl ?_
  refine V_rw (ht2.trans ekk.symm) ?_
  refine V_iload 2147 1 rfl dL_law__2145 rfl ?_
  refine V_icmp_eq 2152 2150 rfl dL_law__2147 rfl (fun c2147 => ?_) (fun c2147 => absurd rfl c2147)
  refine V_iload 2154 1 rfl dL_law__2152 rfl ?_
  refine V_if_ne 2169 2157 rfl dL_law__2154 rfl (fun c2154 => ?_) (fun c2154 => ?_)
  · refine V_goto 2352 rfl dL_law__2169 ?_
    exact V_lv [2, 3, 4, 5, 6] rfl (nd _ _ _ _ _ _ (by omega) (by omega) (SI_aft hS _) hC2 hM2)
  · refine V_aload_n 2158 3 rfl _ rfl rfl dL_law__2157 rfl ?_
    refine V_iconst 2159 (0) rfl dL_law__2158 rfl ?_
    refine V_lald 2160 102 1 (J1 102 0) rfl (vp_in_nI (n := 0) (N := 1) (by decide) (by decide)) rfl (by decide) dL_law__2159 rfl ?_
    refine V_iload 2162 0 rfl dL_law__2160 rfl ?_
    refine V_i2l 2163 dL_law__2162 rfl ?_
    refine V_lcmp 2164 dL_law__2163 rfl ?_
    have hz0 : lg_cmp (J1 102 0) w2.toInt64 = 0 := by
      obtain ⟨v, ev⟩ := th0 (cd := 1) (by decide) (by decide) (ekk.symm.trans (by first | exact c2154 | exact Classical.not_not.mp c2154))
      exact lg_eq (by rw [hw2 v ev]; exact hJ1 v ev)
    refine V_if_eq 2169 2167 rfl dL_law__2164 rfl (fun c2164 => ?_) (fun c2164 => absurd hz0 c2164)
    refine V_goto 2352 rfl dL_law__2169 ?_
    exact V_lv [2, 3, 4, 5, 6] rfl (nd _ _ _ _ _ _ (by omega) (by omega) (SI_aft hS _) hC2 hM2)
theorem lw_span {G : Gx} {d : Nat} {I : FI} {R : FR} {J : FJ} {s : SG} {i k sl : Nat} (hX : SC I R s) (hM : SM I R s) (hS : SI s) (hL : 9 * i + 9 ≤ g_L G) (hL2 : g_L G ≤ 4608) (hk : k ≤ 1000 + 8 * i) (hsl : sl ≤ 100000 + 48 * i) (nd : ∀ k' sl' s' I' R' J', k' ≤ 1008 + 8 * i → sl' ≤ 100048 + 48 * i → SI s' → SC I' R' s' → SM I' R' s' → V G mL_law_ (d + 902) 601024 7293034 k' sl' 2352 (LV G i) [] 103 I' R' J' QL) : V G mL_law_ (d + 902) 601024 7293034 k sl 2172 (LV G i) [] 103 I R J QL := by
  refine V_aload_n 2173 3 rfl _ rfl rfl dL_law__2172 rfl ?_
  refine V_aload_n 2174 4 rfl _ rfl rfl dL_law__2173 rfl ?_
  refine V_iload 2176 0 rfl dL_law__2174 rfl ?_
  refine V_iconst 2177 (1) rfl dL_law__2176 rfl ?_
  refine V_iadd 2178 dL_law__2177 rfl ?_
  refine V_rw (nI_add (9 * i) 1) ?_
  refine V_sld 2179 (sx G i 1) rfl (vp_in_nI (by omega) (by omega)) dL_law__2178 rfl ?_
  refine V_aload_n 2180 4 rfl _ rfl rfl dL_law__2179 rfl ?_
  refine V_iload 2182 0 rfl dL_law__2180 rfl ?_
  refine V_iconst 2183 (2) rfl dL_law__2182 rfl ?_
  refine V_iadd 2184 dL_law__2183 rfl ?_
  refine V_rw (nI_add (9 * i) 2) ?_
  refine V_sld 2185 (sx G i 2) rfl (vp_in_nI (by omega) (by omega)) dL_law__2184 rfl ?_
  refine V_aload_n 2186 4 rfl _ rfl rfl dL_law__2185 rfl ?_
  refine V_iload 2188 0 rfl dL_law__2186 rfl ?_
  refine V_iconst 2189 (3) rfl dL_law__2188 rfl ?_
  refine V_iadd 2190 dL_law__2189 rfl ?_
  refine V_rw (nI_add (9 * i) 3) ?_
  refine V_sld 2191 (sx G i 3) rfl (vp_in_nI (by omega) (by omega)) dL_law__2190 rfl ?_
  refine V_aload_n 2192 4 rfl _ rfl rfl dL_law__2191 rfl ?_
  refine V_iload 2194 0 rfl dL_law__2192 rfl ?_
  refine V_iconst 2195 (4) rfl dL_law__2194 rfl ?_
  refine V_iadd 2196 dL_law__2195 rfl ?_
  refine V_rw (nI_add (9 * i) 4) ?_
  refine V_sld 2197 (sx G i 4) rfl (vp_in_nI (by omega) (by omega)) dL_law__2196 rfl ?_
  refine V_aload_n 2198 4 rfl _ rfl rfl dL_law__2197 rfl ?_
  refine V_iload 2200 0 rfl dL_law__2198 rfl ?_
  refine V_iconst 2201 (5) rfl dL_law__2200 rfl ?_
  refine V_iadd 2202 dL_law__2201 rfl ?_
  refine V_rw (nI_add (9 * i) 5) ?_
  refine V_sld 2203 (sx G i 5) rfl (vp_in_nI (by omega) (by omega)) dL_law__2202 rfl ?_
  refine V_aload_n 2204 1 rfl _ rfl rfl dL_law__2203 rfl ?_
  refine V_callSw (K' := 8) (S' := 48) 2207 7 [rf G 0, .int (sx G i 1), .int (sx G i 2), .int (sx G i 3), .int (sx G i 4), .int (sx G i 5), rf G 102] mkL_span lkL_212 rfl (Nat.le_of_ble_eq_true rfl) (by omega) (by omega) (Nat.le_of_ble_eq_true rfl) rfl rfl dL_law__2204 rfl (h_span (d := d) (x := qT_span s (sx G i 1) (sx G i 2) (sx G i 3) (sx G i 4) (sx G i 5)) qk_span (fun Q' h => tC_span hX hS h) (fun I1 R1 J1 hC1 hF1 hJ1 => ?_))
  refine Kq_i (k' := (k + 8)) (sl' := (sl + 48)) rfl rfl ?_
  have hM1 := hM.cl hF1
  refine V_topi (fun kk ekk => ?_)
  refine V_istore 2209 [(5, .int kk), (4, .int (nI (9 * i))), (3, rf G 102), (2, rf G 69), (1, rf G 0), (0, .ref (g_s G))] (by decide) rfl dL_law__2207 rfl ?_
  refine V_aload_n 2210 3 rfl _ rfl rfl dL_law__2209 rfl ?_
  refine V_aload_n 2211 5 rfl _ rfl rfl dL_law__2210 rfl ?_
  refine V_iload 2213 1 rfl dL_law__2211 rfl ?_
  refine V_iconst 2214 (1) rfl dL_law__2213 rfl ?_
  refine V_iadd 2215 dL_law__2214 rfl ?_
  refine V_rw (nI_add (9 * i) 1) ?_
  refine V_sld 2216 (sx G i 1) rfl (vp_in_nI (by omega) (by omega)) dL_law__2215 rfl ?_
  refine V_aload_n 2217 5 rfl _ rfl rfl dL_law__2216 rfl ?_
  refine V_iload 2219 1 rfl dL_law__2217 rfl ?_
  refine V_iconst 2220 (2) rfl dL_law__2219 rfl ?_
  refine V_iadd 2221 dL_law__2220 rfl ?_
  refine V_rw (nI_add (9 * i) 2) ?_
  refine V_sld 2222 (sx G i 2) rfl (vp_in_nI (by omega) (by omega)) dL_law__2221 rfl ?_
  refine V_aload_n 2223 5 rfl _ rfl rfl dL_law__2222 rfl ?_
  refine V_iload 2225 1 rfl dL_law__2223 rfl ?_
  refine V_iconst 2226 (3) rfl dL_law__2225 rfl ?_
  refine V_iadd 2227 dL_law__2226 rfl ?_
  refine V_rw (nI_add (9 * i) 3) ?_
  refine V_sld 2228 (sx G i 3) rfl (vp_in_nI (by omega) (by omega)) dL_law__2227 rfl ?_
  refine V_aload_n 2229 5 rfl _ rfl rfl dL_law__2228 rfl ?_
  refine V_iload 2231 1 rfl dL_law__2229 rfl ?_
  refine V_iconst 2232 (4) rfl dL_law__2231 rfl ?_
  refine V_iadd 2233 dL_law__2232 rfl ?_
  refine V_rw (nI_add (9 * i) 4) ?_
  refine V_sld 2234 (sx G i 4) rfl (vp_in_nI (by omega) (by omega)) dL_law__2233 rfl ?_
  refine V_aload_n 2235 5 rfl _ rfl rfl dL_law__2234 rfl ?_
  refine V_iload 2237 1 rfl dL_law__2235 rfl ?_
  refine V_iconst 2238 (5) rfl dL_law__2237 rfl ?_
  refine V_iadd 2239 dL_law__2238 rfl ?_
  refine V_rw (nI_add (9 * i) 5) ?_
  refine V_sld 2240 (sx G i 5) rfl (vp_in_nI (by omega) (by omega)) dL_law__2239 rfl ?_
  refine V_callV (K' := 0) (S' := 0) 2243 69 11 5 [.int (sx G i 1), .int (sx G i 2), .int (sx G i 3), .int (sx G i 4), .int (sx G i 5)] mkX11_span lkL_215 (by decide) rfl rfl (by decide) rfl (Nat.le_of_ble_eq_true rfl) (by omega) (by omega) (Nat.le_of_ble_eq_true rfl) rfl rfl dL_law__2240 rfl (tM_span (d := d + 1) hM1 hS (HR.i (fun I2 w2 hM2 hg2 ht2 hw2 => ?_)))
  refine Kq_i (k' := (k + 8)) (sl' := (sl + 48)) rfl rfl ?_
  have hC2 := hC1.rf hg2
  refine V_istore 2245 [(6, .int w2), (5, .int kk), (4, .int (nI (9 * i))), (3, rf G 102), (2, rf G 69), (1, rf G 0), (0, .ref (g_s G))] (by decide) rfl dL_law__2243 rfl ?_
  refine V_aload_n 2246 4 rfl _ rfl rfl dL_law__2245 rfl ?_
  refine V_callV (K' := 0) (S' := 0) 2249 69 11 0 [] mkX11_thrown lkL_118 (by decide) rfl rfl (by decide) rfl (Nat.le_of_ble_eq_true rfl) (by omega) (by omega) (Nat.le_of_ble_eq_true rfl) rfl rfl dL_law__2246 rfl (c_X11_thrown ?_)
  refine Kq_i (k' := (k + 8)) (sl' := (sl + 48)) rfl rfl ?_
  refine V_rw (ht2.trans ekk.symm) ?_
  refine V_iload 2251 1 rfl dL_law__2249 rfl ?_
  refine V_icmp_eq 2256 2254 rfl dL_law__2251 rfl (fun c2251 => ?_) (fun c2251 => absurd rfl c2251)
  refine V_iload 2258 1 rfl dL_law__2256 rfl ?_
  refine V_if_ne 2273 2261 rfl dL_law__2258 rfl (fun c2258 => ?_) (fun c2258 => ?_)
  · refine V_goto 2352 rfl dL_law__2273 ?_
    exact V_lv [2, 3, 4, 5, 6] rfl (nd _ _ _ _ _ _ (by omega) (by omega) (SI_aft hS _) hC2 hM2)
  · refine V_aload_n 2262 3 rfl _ rfl rfl dL_law__2261 rfl ?_
    refine V_iconst 2263 (0) rfl dL_law__2262 rfl ?_
    refine V_lald 2264 102 1 (J1 102 0) rfl (vp_in_nI (n := 0) (N := 1) (by decide) (by decide)) rfl (by decide) dL_law__2263 rfl ?_
    refine V_iload 2266 0 rfl dL_law__2264 rfl ?_
    refine V_i2l 2267 dL_law__2266 rfl ?_
    refine V_lcmp 2268 dL_law__2267 rfl ?_
    have hz0 : lg_cmp (J1 102 0) w2.toInt64 = 0 := by
      obtain ⟨v, ev⟩ := th0 (cd := 1) (by decide) (by decide) (ekk.symm.trans (by first | exact c2258 | exact Classical.not_not.mp c2258))
      exact lg_eq (by rw [hw2 v ev]; exact hJ1 v ev)
    refine V_if_eq 2273 2271 rfl dL_law__2268 rfl (fun c2268 => ?_) (fun c2268 => absurd hz0 c2268)
    refine V_goto 2352 rfl dL_law__2273 ?_
    exact V_lv [2, 3, 4, 5, 6] rfl (nd _ _ _ _ _ _ (by omega) (by omega) (SI_aft hS _) hC2 hM2)
theorem lw_image {G : Gx} {d : Nat} {I : FI} {R : FR} {J : FJ} {s : SG} {i k sl : Nat} (hX : SC I R s) (hM : SM I R s) (hS : SI s) (hL : 9 * i + 9 ≤ g_L G) (hL2 : g_L G ≤ 4608) (hk : k ≤ 1000 + 8 * i) (hsl : sl ≤ 100000 + 48 * i) (nd : ∀ k' sl' s' I' R' J', k' ≤ 1008 + 8 * i → sl' ≤ 100048 + 48 * i → SI s' → SC I' R' s' → SM I' R' s' → V G mL_law_ (d + 902) 601024 7293034 k' sl' 2352 (LV G i) [] 103 I' R' J' QL) : V G mL_law_ (d + 902) 601024 7293034 k sl 2276 (LV G i) [] 103 I R J QL := by
  refine V_aload_n 2277 3 rfl _ rfl rfl dL_law__2276 rfl ?_
  refine V_callV (K' := 0) (S' := 0) 2280 0 10 0 [] mkX10_image lkL_216 (by decide) rfl rfl (by decide) rfl (Nat.le_of_ble_eq_true rfl) (by omega) (by omega) (Nat.le_of_ble_eq_true rfl) rfl rfl dL_law__2277 rfl (c_X10_image (d := d + 1) hX hS (HC.i (x := imageT s) (ex_image) (fun I1 R1 v1 ev1 hC1 hF1 => ?_)))
  refine Kq_i (k' := k) (sl' := sl) rfl rfl ?_
  have hM1 := hM.cl hF1
  refine V_aload_n 2281 2 rfl _ rfl rfl dL_law__2280 rfl ?_
  refine V_callV (K' := 0) (S' := 0) 2284 69 11 0 [] mkX11_image lkL_219 (by decide) rfl rfl (by decide) rfl (Nat.le_of_ble_eq_true rfl) (by omega) (by omega) (Nat.le_of_ble_eq_true rfl) rfl rfl dL_law__2281 rfl (c_X11_image (d := d + 1) (cd := 1) hM1 hS (HR.i (x := imageT s) (fun I2 w2 hM2 hg2 ht2 hw2 => ?_)))
  refine Kq_i (k' := k) (sl' := sl) rfl rfl ?_
  have hC2 := hC1.rf hg2
  refine V_icmp_eq 2352 2287 rfl dL_law__2284 rfl (fun c2284 => ?_) (fun c2284 => absurd (hw2 v1 ev1).symm c2284)
  exact V_lv [0, 1, 2, 3, 4] rfl (nd _ _ _ _ _ _ (by omega) (by omega) (SI_image hS) hC2 hM2)
theorem lw_restore {G : Gx} {d : Nat} {I : FI} {R : FR} {J : FJ} {s : SG} {i k sl : Nat} (hX : SC I R s) (hM : SM I R s) (hS : SI s) (hL : 9 * i + 9 ≤ g_L G) (hL2 : g_L G ≤ 4608) (hk : k ≤ 1000 + 8 * i) (hsl : sl ≤ 100000 + 48 * i) (nd : ∀ k' sl' s' I' R' J', k' ≤ 1008 + 8 * i → sl' ≤ 100048 + 48 * i → SI s' → SC I' R' s' → SM I' R' s' → V G mL_law_ (d + 902) 601024 7293034 k' sl' 2352 (LV G i) [] 103 I' R' J' QL) : V G mL_law_ (d + 902) 601024 7293034 k sl 2289 (LV G i) [] 103 I R J QL := by
  refine V_aload_n 2290 3 rfl _ rfl rfl dL_law__2289 rfl ?_
  refine V_callV (K' := 0) (S' := 0) 2293 0 10 0 [] mkX10_restore lkL_220 (by decide) rfl rfl (by decide) rfl (Nat.le_of_ble_eq_true rfl) (by omega) (by omega) (Nat.le_of_ble_eq_true rfl) rfl rfl dL_law__2290 rfl (c_X10_restore (d := d + 1) hX hS (HC.i (x := restT s) (ex_rest) (fun I1 R1 v1 ev1 hC1 hF1 => ?_)))
  refine Kq_i (k' := k) (sl' := sl) rfl rfl ?_
  have hM1 := hM.cl hF1
  refine V_aload_n 2294 2 rfl _ rfl rfl dL_law__2293 rfl ?_
  refine V_callV (K' := 0) (S' := 0) 2297 69 11 0 [] mkX11_restore lkL_223 (by decide) rfl rfl (by decide) rfl (Nat.le_of_ble_eq_true rfl) (by omega) (by omega) (Nat.le_of_ble_eq_true rfl) rfl rfl dL_law__2294 rfl (c_X11_restore (d := d + 1) (cd := 1) hM1 hS (HR.i (x := restT s) (fun I2 w2 hM2 hg2 ht2 hw2 => ?_)))
  refine Kq_i (k' := k) (sl' := sl) rfl rfl ?_
  have hC2 := hC1.rf hg2
  refine V_icmp_eq 2352 2300 rfl dL_law__2297 rfl (fun c2297 => ?_) (fun c2297 => absurd (hw2 v1 ev1).symm c2297)
  exact V_lv [0, 1, 2, 3, 4] rfl (nd _ _ _ _ _ _ (by omega) (by omega) (SI_rest hS) hC2 hM2)
theorem lw_status {G : Gx} {d : Nat} {I : FI} {R : FR} {J : FJ} {s : SG} {i k sl : Nat} (hX : SC I R s) (hM : SM I R s) (hS : SI s) (hL : 9 * i + 9 ≤ g_L G) (hL2 : g_L G ≤ 4608) (hk : k ≤ 1000 + 8 * i) (hsl : sl ≤ 100000 + 48 * i) (nd : ∀ k' sl' s' I' R' J', k' ≤ 1008 + 8 * i → sl' ≤ 100048 + 48 * i → SI s' → SC I' R' s' → SM I' R' s' → V G mL_law_ (d + 902) 601024 7293034 k' sl' 2352 (LV G i) [] 103 I' R' J' QL) : V G mL_law_ (d + 902) 601024 7293034 k sl 2302 (LV G i) [] 103 I R J QL := by
  refine V_aload_n 2303 3 rfl _ rfl rfl dL_law__2302 rfl ?_
  refine V_aload_n 2304 4 rfl _ rfl rfl dL_law__2303 rfl ?_
  refine V_iload 2306 0 rfl dL_law__2304 rfl ?_
  refine V_iconst 2307 (1) rfl dL_law__2306 rfl ?_
  refine V_iadd 2308 dL_law__2307 rfl ?_
  refine V_rw (nI_add (9 * i) 1) ?_
  refine V_sld 2309 (sx G i 1) rfl (vp_in_nI (by omega) (by omega)) dL_law__2308 rfl ?_
  refine V_callV (K' := 0) (S' := 0) 2312 0 10 1 [.int (sx G i 1)] mkX10_status lkL_224 (by decide) rfl rfl (by decide) rfl (Nat.le_of_ble_eq_true rfl) (by omega) (by omega) (Nat.le_of_ble_eq_true rfl) rfl rfl dL_law__2309 rfl (c_X10_status (d := d + 1) hX hS (HC.i (x := statT s (sx G i 1)) (⟨_, rfl⟩) (fun I1 R1 v1 ev1 hC1 hF1 => ?_)))
  refine Kq_i (k' := k) (sl' := sl) rfl rfl ?_
  have hM1 := hM.cl hF1
  refine V_aload_n 2313 2 rfl _ rfl rfl dL_law__2312 rfl ?_
  refine V_aload_n 2314 4 rfl _ rfl rfl dL_law__2313 rfl ?_
  refine V_iload 2316 0 rfl dL_law__2314 rfl ?_
  refine V_iconst 2317 (1) rfl dL_law__2316 rfl ?_
  refine V_iadd 2318 dL_law__2317 rfl ?_
  refine V_rw (nI_add (9 * i) 1) ?_
  refine V_sld 2319 (sx G i 1) rfl (vp_in_nI (by omega) (by omega)) dL_law__2318 rfl ?_
  refine V_callV (K' := 0) (S' := 0) 2322 69 11 1 [.int (sx G i 1)] mkX11_status lkL_227 (by decide) rfl rfl (by decide) rfl (Nat.le_of_ble_eq_true rfl) (by omega) (by omega) (Nat.le_of_ble_eq_true rfl) rfl rfl dL_law__2319 rfl (c_X11_status (d := d + 1) (cd := 1) hM1 hS (HR.i (x := statT s (sx G i 1)) (fun I2 w2 hM2 hg2 ht2 hw2 => ?_)))
  refine Kq_i (k' := k) (sl' := sl) rfl rfl ?_
  have hC2 := hC1.rf hg2
  refine V_icmp_eq 2352 2325 rfl dL_law__2322 rfl (fun c2322 => ?_) (fun c2322 => absurd (hw2 v1 ev1).symm c2322)
  exact V_lv [0, 1, 2, 3, 4] rfl (nd _ _ _ _ _ _ (by omega) (by omega) (hS) hC2 hM2)
theorem lw_count {G : Gx} {d : Nat} {I : FI} {R : FR} {J : FJ} {s : SG} {i k sl : Nat} (hX : SC I R s) (hM : SM I R s) (hS : SI s) (hL : 9 * i + 9 ≤ g_L G) (hL2 : g_L G ≤ 4608) (hk : k ≤ 1000 + 8 * i) (hsl : sl ≤ 100000 + 48 * i) (nd : ∀ k' sl' s' I' R' J', k' ≤ 1008 + 8 * i → sl' ≤ 100048 + 48 * i → SI s' → SC I' R' s' → SM I' R' s' → V G mL_law_ (d + 902) 601024 7293034 k' sl' 2352 (LV G i) [] 103 I' R' J' QL) : V G mL_law_ (d + 902) 601024 7293034 k sl 2327 (LV G i) [] 103 I R J QL := by
  refine V_aload_n 2328 3 rfl _ rfl rfl dL_law__2327 rfl ?_
  refine V_aload_n 2329 4 rfl _ rfl rfl dL_law__2328 rfl ?_
  refine V_iload 2331 0 rfl dL_law__2329 rfl ?_
  refine V_iconst 2332 (1) rfl dL_law__2331 rfl ?_
  refine V_iadd 2333 dL_law__2332 rfl ?_
  refine V_rw (nI_add (9 * i) 1) ?_
  refine V_sld 2334 (sx G i 1) rfl (vp_in_nI (by omega) (by omega)) dL_law__2333 rfl ?_
  refine V_callV (K' := 0) (S' := 0) 2337 0 10 1 [.int (sx G i 1)] mkX10_count lkL_228 (by decide) rfl rfl (by decide) rfl (Nat.le_of_ble_eq_true rfl) (by omega) (by omega) (Nat.le_of_ble_eq_true rfl) rfl rfl dL_law__2334 rfl (c_X10_count (d := d + 1) hX hS (HC.i (x := cntT s (sx G i 1)) (⟨_, rfl⟩) (fun I1 R1 v1 ev1 hC1 hF1 => ?_)))
  refine Kq_i (k' := k) (sl' := sl) rfl rfl ?_
  have hM1 := hM.cl hF1
  refine V_aload_n 2338 2 rfl _ rfl rfl dL_law__2337 rfl ?_
  refine V_aload_n 2339 4 rfl _ rfl rfl dL_law__2338 rfl ?_
  refine V_iload 2341 0 rfl dL_law__2339 rfl ?_
  refine V_iconst 2342 (1) rfl dL_law__2341 rfl ?_
  refine V_iadd 2343 dL_law__2342 rfl ?_
  refine V_rw (nI_add (9 * i) 1) ?_
  refine V_sld 2344 (sx G i 1) rfl (vp_in_nI (by omega) (by omega)) dL_law__2343 rfl ?_
  refine V_callV (K' := 0) (S' := 0) 2347 69 11 1 [.int (sx G i 1)] mkX11_count lkL_231 (by decide) rfl rfl (by decide) rfl (Nat.le_of_ble_eq_true rfl) (by omega) (by omega) (Nat.le_of_ble_eq_true rfl) rfl rfl dL_law__2344 rfl (c_X11_count (d := d + 1) (cd := 1) hM1 hS (HR.i (x := cntT s (sx G i 1)) (fun I2 w2 hM2 hg2 ht2 hw2 => ?_)))
  refine Kq_i (k' := k) (sl' := sl) rfl rfl ?_
  have hC2 := hC1.rf hg2
  refine V_icmp_eq 2352 2350 rfl dL_law__2347 rfl (fun c2347 => ?_) (fun c2347 => absurd (hw2 v1 ev1).symm c2347)
  exact V_lv [0, 1, 2, 3, 4] rfl (nd _ _ _ _ _ _ (by omega) (by omega) (hS) hC2 hM2)
