/-! ===== calls that change the state ===== -/
def txB (s : SG) (v : Int32) : SG := (mkS s.K s.f s.D s.t 0 s.nb s.bk s.wn s.W s.mn s.M s.mw s.MW s.rs v s.mi s.wr)
def feedT (s : SG) (a b c d e : Int32) : Tr := if 600 < s.tn + 20 then (.inl (-1), s) else (.inl (nI (s.tn + 20)), (mkS s.K s.f s.D (ap4 (ap4 (ap4 (ap4 (ap4 s.t s.tn a) (s.tn + 4) b) (s.tn + 8) c) (s.tn + 12) d) (s.tn + 16) e) (s.tn + 20) s.nb s.bk s.wn s.W s.mn s.M s.mw s.MW s.rs s.fl s.mi s.wr))
def stdF : DV → Int32 := fun F => clF (3 * F 0 - 4 * F 1)
def coS (s : SG) (K : CO) : SG := (mkS K stdF (day0 K) s.t 0 0 (fun _ => none) 0 s.W 0 s.M s.mw s.MW 0 (-1) s.mi s.wr)
def coastT (s : SG) (x : Int32) : Tr := if ckT x s.tn 600 then (match coF s.t x.toNatClampNeg with
  | .inl (k, q) => (.inl (nI k - 10), txB s (nI q))
  | .inr K => (.inl (nI (cM K)), coS s K)) else (.inr 1, bump 1 s)
def laS (s : SG) (e : LE) : SG := (mkS s.K (fun F => clF (e F)) s.D s.t 0 s.nb s.bk s.wn s.W s.mn s.M s.mw s.MW s.rs (-1) s.mi s.wr)
def lawT (s : SG) (x : Int32) : Tr := if ckT x s.tn 150 then (match lawF s.t x.toNatClampNeg with
  | .inl (k, q) => (.inl (nI k - 10), txB s (nI q))
  | .inr e => (.inl 1, laS s e)) else (.inr 1, bump 1 s)
def woE (s : SG) (n : Nat) (S : SR) : ES := exL s.K s.f S 6 0 n (s.D, 0, 0, 0)
def woS (s : SG) (n : Nat) (S : SR) : SG := (mkS s.K s.f ((woE s n S).1) s.t 0 s.nb s.bk (s.wn + 1) (fun j => if j = s.wn then s.D else s.W j) s.mn s.M s.mw s.MW (nI (woE s n S).2.2.2) (-1) s.mi s.wr)
def workT (s : SG) (x : Int32) : Tr := if ckT x s.tn 150 then (if s.wn = 16 then (.inl (-20), txB s (-1)) else match wkF s.t x.toNatClampNeg s.K with
  | .inl (k, q) => (.inl (nI k - 10), txB s (nI q))
  | .inr ((n, S), _) => (.inl (nI (woE s n S).2.2.1), woS s n S)) else (.inr 1, bump 1 s)
def boS (s : SG) (n : Nat) (bk : Nat → Option Nat) : SG := (mkS s.K s.f s.D s.t 0 n bk s.wn s.W s.mn s.M s.mw s.MW s.rs (-1) s.mi s.wr)
def bookT (s : SG) (x : Int32) : Tr := if ckT x s.tn 60 then (match bkF s.t x.toNatClampNeg with
  | .inl (k, q) => (.inl (nI k - 10), txB s (nI q))
  | .inr (n, bk) => (.inl (nI n), boS s n bk)) else (.inr 1, bump 1 s)
theorem ckT_z {x : Int32} {tn most : Nat} (h6 : tn ≤ 600) (h : ckT x tn most) : ∃ z, z ≤ tn ∧ z ≤ most ∧ x = nI z := by
  obtain ⟨j, hj, e⟩ := in_nI (n := min tn most) (by have := Nat.min_le_left tn most; omega) h.1 h.2
  exact ⟨j, Nat.le_trans hj (Nat.min_le_left _ _), Nat.le_trans hj (Nat.min_le_right _ _), e⟩
theorem zck {z tn most : Nat} (h6 : tn ≤ 600) (h1 : z ≤ tn) (h2 : z ≤ most) : ckT (nI z) tn most := ⟨nI_le (a := 0) (Nat.zero_le _) (by omega), nI_le (Nat.le_min.mpr ⟨h1, h2⟩) (by have := Nat.min_le_left tn most; omega)⟩
theorem coastT_n {s : SG} {x : Int32} (h : ¬ ckT x s.tn 600) : coastT s x = (.inr 1, bump 1 s) := if_neg h
theorem coastT_b {s : SG} {z k q : Nat} (h6 : s.tn ≤ 600) (h1 : z ≤ s.tn) (h2 : z ≤ 600) (e : coF s.t z = .inl (k, q)) : coastT s (nI z) = (.inl (nI k - 10), txB s (nI q)) := by
  unfold coastT; rw [if_pos (zck h6 h1 h2), nI_clamp (by omega), e]
theorem coastT_k {s : SG} {z : Nat} {K : CO} (h6 : s.tn ≤ 600) (h1 : z ≤ s.tn) (h2 : z ≤ 600) (eq : coF s.t z = .inr K) : coastT s (nI z) = (.inl (nI (cM K)), coS s K) := by
  unfold coastT; rw [if_pos (zck h6 h1 h2), nI_clamp (by omega), eq]
theorem lawT_n {s : SG} {x : Int32} (h : ¬ ckT x s.tn 150) : lawT s x = (.inr 1, bump 1 s) := if_neg h
theorem lawT_b {s : SG} {z k q : Nat} (h6 : s.tn ≤ 600) (h1 : z ≤ s.tn) (h2 : z ≤ 150) (e : lawF s.t z = .inl (k, q)) : lawT s (nI z) = (.inl (nI k - 10), txB s (nI q)) := by
  unfold lawT; rw [if_pos (zck h6 h1 h2), nI_clamp (by omega), e]
theorem lawT_k {s : SG} {z : Nat} {e : LE} (h6 : s.tn ≤ 600) (h1 : z ≤ s.tn) (h2 : z ≤ 150) (eq : lawF s.t z = .inr e) : lawT s (nI z) = (.inl 1, laS s e) := by
  unfold lawT; rw [if_pos (zck h6 h1 h2), nI_clamp (by omega), eq]
theorem bookT_n {s : SG} {x : Int32} (h : ¬ ckT x s.tn 60) : bookT s x = (.inr 1, bump 1 s) := if_neg h
theorem bookT_b {s : SG} {z k q : Nat} (h6 : s.tn ≤ 600) (h1 : z ≤ s.tn) (h2 : z ≤ 60) (e : bkF s.t z = .inl (k, q)) : bookT s (nI z) = (.inl (nI k - 10), txB s (nI q)) := by
  unfold bookT; rw [if_pos (zck h6 h1 h2), nI_clamp (by omega), e]
theorem bookT_k {s : SG} {z : Nat} {n : Nat} {bk : Nat → Option Nat} (h6 : s.tn ≤ 600) (h1 : z ≤ s.tn) (h2 : z ≤ 60) (eq : bkF s.t z = .inr (n, bk)) : bookT s (nI z) = (.inl (nI n), boS s n bk) := by
  unfold bookT; rw [if_pos (zck h6 h1 h2), nI_clamp (by omega), eq]
theorem workT_n {s : SG} {x : Int32} (h : ¬ ckT x s.tn 150) : workT s x = (.inr 1, bump 1 s) := if_neg h
theorem workT_f {s : SG} {z : Nat} (h6 : s.tn ≤ 600) (h1 : z ≤ s.tn) (h2 : z ≤ 150) (hw : s.wn = 16) : workT s (nI z) = (.inl (-20), txB s (-1)) := by
  unfold workT; rw [if_pos (zck h6 h1 h2), if_pos hw]
theorem workT_b {s : SG} {z k q : Nat} (h6 : s.tn ≤ 600) (h1 : z ≤ s.tn) (h2 : z ≤ 150) (hw : ¬ s.wn = 16) (e : wkF s.t z s.K = .inl (k, q)) : workT s (nI z) = (.inl (nI k - 10), txB s (nI q)) := by
  unfold workT; rw [if_pos (zck h6 h1 h2), if_neg hw, nI_clamp (by omega), e]
theorem workT_k {s : SG} {z n p : Nat} {S : SR} (h6 : s.tn ≤ 600) (h1 : z ≤ s.tn) (h2 : z ≤ 150) (hw : ¬ s.wn = 16) (e : wkF s.t z s.K = .inr ((n, S), p)) : workT s (nI z) = (.inl (nI (woE s n S).2.2.1), woS s n S) := by
  unfold workT; rw [if_pos (zck h6 h1 h2), if_neg hw, nI_clamp (by omega), e]
/-- the parts in use are as they were; the TAPE is read -/
theorem SCx.fr {I I' : FI} {R : FR} {c l b tn' : Nat} {fl' : Int32} {s : SG} (h : SCx I R c l b s) (g : ∀ a, (a = 0 ∨ a = 2 ∨ (c ≤ a ∧ a ≤ c + 6) ∨ (l ≤ a ∧ a ≤ l + 3) ∨ (18 ≤ a ∧ a ≤ 25) ∨ (39 ≤ a ∧ a ≤ 42) ∨ (b ≤ a ∧ a ≤ b + 2)) → I' a = I a) (h1 : I' 1 1 = nI tn') (h8 : I' 1 8 = fl') : SCx I' R c l b (mkS s.K s.f s.D s.t tn' s.nb s.bk s.wn s.W s.mn s.M s.mw s.MW s.rs fl' s.mi s.wr) := by
  obtain ⟨⟨h1', hc, hl, hb, h5, h6, h7, h8', h9⟩, ⟨t1, t2, t3⟩, hB, ⟨p1, p2, p3, p4⟩, r1, r2, r3⟩ := h
  refine ⟨⟨h1', hc, hl, hb, h5.fr (fun a q1 q2 => g a (by omega)), h6, h7.fr (fun a q1 q2 => g a (by omega)), h8', h9.fr (fun a q1 q2 => g a (by omega))⟩, ⟨h1, ?_, h8⟩, hB.fr (fun a q1 q2 => g a (by omega)), ⟨?_, ?_, ?_, ?_⟩, ?_, ?_, ?_⟩
  · rw [g 2 (by omega)]; exact t2
  · rw [g 39 (by omega)]; exact p1
  · rw [g 39 (by omega)]; exact p2
  · rw [g 40 (by omega)]; exact p3
  · rw [g 41 (by omega), g 42 (by omega)]; exact p4
  · rw [g 0 (by omega)]; exact r1
  · rw [g 0 (by omega)]; exact r2
  · rw [g 0 (by omega)]; exact r3
theorem tp_11 {t : Nat → Nat} {z : Nat} {I : FI} {p : Nat} {fc fp : Int32} : tp t z I p fc fp 1 1 = I 1 1 := rfl
theorem tp_17 {t : Nat → Nat} {z : Nat} {I : FI} {p : Nat} {fc fp : Int32} : tp t z I p fc fp 1 7 = fc := rfl
theorem tp_18 {t : Nat → Nat} {z : Nat} {I : FI} {p : Nat} {fc fp : Int32} : tp t z I p fc fp 1 8 = fp := rfl
theorem RS.c {R : FR} {c l b c2 : Nat} (h : RS R c l b) (e : c2 = 55 - c) (hc : c = 4 ∨ c = 51) : RS (upR (upR R 3 0 (some c2)) 0 8 (some c)) c2 l b := by
  intro o k ho
  by_cases h0 : o = 0
  · subst h0
    rw [upR_s]
    by_cases hk : k = 8
    · subst hk; show some c = some (55 - c2); rw [show 55 - c2 = c by omega]
    · dsimp only
      rw [if_neg hk, upR_n _ _ _ (by decide), h 0 k (by decide)]
      match k, hk with
      | 0, _ => rfl
      | 1, _ => rfl
      | 2, _ => rfl
      | 3, _ => rfl
      | 4, _ => rfl
      | 5, _ => rfl
      | 6, _ => rfl
      | 7, _ => rfl
      | 8, q => exact absurd rfl q
      | 9, _ => rfl
      | 10, _ => rfl
      | 11, _ => rfl
      | k + 12, _ => rfl
  · rw [upR_n _ _ _ h0]
    by_cases h3 : o = 3
    · subst h3
      rw [upR_s]
      by_cases hk : k = 0
      · subst hk; rfl
      · dsimp only
        rw [if_neg hk, h 3 k (by decide)]
        match k, hk with
        | 0, q => exact absurd rfl q
        | 1, _ => rfl
        | 2, _ => rfl
        | 3, _ => rfl
        | k + 4, _ => rfl
    · rw [upR_n _ _ _ h3, h o k ho]
      unfold refC
      split
      · exact absurd rfl h0
      · exact absurd rfl h3
      · rfl
theorem RS.l {R : FR} {c l b l2 : Nat} (h : RS R c l b) (e : l2 = 69 - l) (hl : l = 11 ∨ l = 58) : RS (upR (upR R 3 1 (some l2)) 0 9 (some l)) c l2 b := by
  intro o k ho
  by_cases h0 : o = 0
  · subst h0
    rw [upR_s]
    by_cases hk : k = 9
    · subst hk; show some l = some (69 - l2); rw [show 69 - l2 = l by omega]
    · dsimp only
      rw [if_neg hk, upR_n _ _ _ (by decide), h 0 k (by decide)]
      match k, hk with
      | 0, _ => rfl
      | 1, _ => rfl
      | 2, _ => rfl
      | 3, _ => rfl
      | 4, _ => rfl
      | 5, _ => rfl
      | 6, _ => rfl
      | 7, _ => rfl
      | 8, _ => rfl
      | 9, q => exact absurd rfl q
      | 10, _ => rfl
      | 11, _ => rfl
      | k + 12, _ => rfl
  · rw [upR_n _ _ _ h0]
    by_cases h3 : o = 3
    · subst h3
      rw [upR_s]
      by_cases hk : k = 1
      · subst hk; rfl
      · dsimp only
        rw [if_neg hk, h 3 k (by decide)]
        match k, hk with
        | 0, _ => rfl
        | 1, q => exact absurd rfl q
        | 2, _ => rfl
        | 3, _ => rfl
        | k + 4, _ => rfl
    · rw [upR_n _ _ _ h3, h o k ho]
      unfold refC
      split
      · exact absurd rfl h0
      · exact absurd rfl h3
      · rfl
theorem RS.b {R : FR} {c l b b2 : Nat} (h : RS R c l b) (e : b2 = 129 - b) (hb : b = 63 ∨ b = 66) : RS (upR (upR R 0 10 (some b2)) 0 11 (some b)) c l b2 := by
  intro o k ho
  by_cases h0 : o = 0
  · subst h0
    rw [upR_s]
    by_cases hk : k = 11
    · subst hk; show some b = some (129 - b2); rw [show 129 - b2 = b by omega]
    · dsimp only
      rw [if_neg hk, upR_s]
      by_cases hk2 : k = 10
      · subst hk2; rfl
      · dsimp only
        rw [if_neg hk2, h 0 k (by decide)]
        match k, hk, hk2 with
        | 0, _, _ => rfl
        | 1, _, _ => rfl
        | 2, _, _ => rfl
        | 3, _, _ => rfl
        | 4, _, _ => rfl
        | 5, _, _ => rfl
        | 6, _, _ => rfl
        | 7, _, _ => rfl
        | 8, _, _ => rfl
        | 9, _, _ => rfl
        | 10, _, q => exact absurd rfl q
        | 11, q, _ => exact absurd rfl q
        | k + 12, _, _ => rfl
  · rw [upR_n _ _ _ h0, upR_n _ _ _ h0, h o k ho]
    unfold refC
    split
    · exact absurd rfl h0
    · rfl
    · rfl
theorem c_X10_feed {G : Gx} {d : Nat} {I : FI} {R : FR} {J : FJ} {Q : Po} {s : SG} (hX : SC I R s) (hS : SI s) {v1 v2 v3 v4 v5 : Int32} (hq : HC I R J Q (feedT s v1 v2 v3 v4 v5)) : Cc G mX10_feed (d + 900) 0 0 [rf G 0, .int v1, .int v2, .int v3, .int v4, .int v5] 103 I R J Q := by
  obtain ⟨c, l, b, hXx⟩ := hX
  obtain ⟨⟨hRS, hc, hl, hb, hC, hW, hD, hI, hL⟩, ⟨t1, t2, t3⟩, hB, ⟨p1, p2, p3, p4⟩, r1, r2, r3⟩ := id hXx
  obtain ⟨s1, s2, s3, s4, s5, s6, s7, s8, s9, s10⟩ := hS
  obtain ⟨c2, ec2⟩ : ∃ c2, c2 = 55 - c := ⟨_, rfl⟩
  obtain ⟨l2, el2⟩ : ∃ l2, l2 = 69 - l := ⟨_, rfl⟩
  obtain ⟨b2, eb2⟩ : ∃ b2, b2 = 129 - b := ⟨_, rfl⟩
  have hc2 : c2 = 4 ∨ c2 = 51 := by omega
  have hl2 : l2 = 11 ∨ l2 = 58 := by omega
  have hb2 : b2 = 63 ∨ b2 = 66 := by omega
  have hRK := hRS.K
  have hR08 : R 0 8 = some c2 := (hRS 0 8 (by decide)).trans (by rw [ec2]; rfl)
  have hR09 : R 0 9 = some l2 := (hRS 0 9 (by decide)).trans (by rw [el2]; rfl)
  have hR0b : R 0 11 = some b2 := (hRS 0 11 (by decide)).trans (by rw [eb2]; rfl)
  have hR3c : R 3 0 = some c := hRS 3 0 (by decide)
  have hR3l : R 3 1 = some l := hRS 3 1 (by decide)
  show V _ _ _ _ _ _ _ _ [(0, rf G 0), (1, .int v1), (2, .int v2), (3, .int v3), (4, .int v4), (5, .int v5)] [] _ _ _ _ _
  unfold feedT at hq
  by_cases c0 : 600 < s.tn + 20
  · rw [if_pos c0] at hq
    replace hq := hq I R ⟨c, l, b, hXx⟩ ⟨fun _ _ => rfl, fun _ => rfl⟩
    refine V_aload_n 1 0 rfl _ rfl rfl dX10_feed_0 rfl ?_
    refine V_getR 4 0 10 0 1 (hRS 0 0 (by decide)) flX10_10 rfl rfl rfl (by decide) dX10_feed_1 rfl ?_
    refine V_getI 7 1 8 1 (nI s.tn) t1 flX10_92 rfl rfl rfl (by decide) dX10_feed_4 rfl ?_
    refine V_bipush 9 (20) rfl dX10_feed_7 rfl ?_
    refine V_iadd 10 dX10_feed_9 rfl ?_
    refine V_rw (nI_add s.tn 20) ?_
    refine V_sipush 13 (600) rfl dX10_feed_10 rfl ?_
    refine V_icmp_le 18 16 rfl dX10_feed_13 rfl (fun c13 => absurd c13 (nI_ge (a := 600) c0 (by omega))) (fun c13 => ?_)
    refine V_iconst 17 (-1) rfl dX10_feed_16 rfl ?_
    refine V_ret_i rfl rfl (Nat.le_of_ble_eq_true rfl) (fun h => absurd h (by decide)) (Nat.le_of_ble_eq_true rfl) (hq) dX10_feed_17
  · rw [if_neg c0] at hq
    have fin : ∀ {I1 I2 I3 I4 I5 : FI}, (∀ a, a ≠ 1 → a ≠ 2 → I1 a = I a) → (∀ j, j ≠ 1 → I1 1 j = I 1 j) → (∀ a, a ≠ 1 → a ≠ 2 → I2 a = I1 a) → (∀ j, j ≠ 1 → I2 1 j = I1 1 j) → (∀ a, a ≠ 1 → a ≠ 2 → I3 a = I2 a) → (∀ j, j ≠ 1 → I3 1 j = I2 1 j) → (∀ a, a ≠ 1 → a ≠ 2 → I4 a = I3 a) → (∀ j, j ≠ 1 → I4 1 j = I3 1 j) → (∀ a, a ≠ 1 → a ≠ 2 → I5 a = I4 a) → (∀ j, j ≠ 1 → I5 1 j = I4 1 j) → I5 1 1 = nI (s.tn + 16 + 4) → (∀ j, j < 600 → I5 2 j = bI (ap4 (ap4 (ap4 (ap4 (ap4 s.t s.tn v1) (s.tn + 4) v2) (s.tn + 8) v3) (s.tn + 12) v4) (s.tn + 16) v5 j)) → Q (.inl (some (.int (nI (s.tn + 20))))) 103 I5 R J := by
      intro I1 I2 I3 I4 I5 g1a g1b g2a g2b g3a g3b g4a g4b g5a g5b g5c g5d
      have g : ∀ a, a ≠ 1 → a ≠ 2 → I5 a = I a := fun a h1 h2 => (g5a a h1 h2).trans ((g4a a h1 h2).trans ((g3a a h1 h2).trans ((g2a a h1 h2).trans (g1a a h1 h2))))
      have e8 : I5 1 8 = s.fl := by rw [g5b 8 (by decide), g4b 8 (by decide), g3b 8 (by decide), g2b 8 (by decide), g1b 8 (by decide)]; exact t3
      refine hq I5 R ⟨c, l, b, ⟨⟨hRS, hc, hl, hb, hC.fr (fun a q1 q2 => g a (by omega) (by omega)), hW, hD.fr (fun a q1 q2 => g a (by omega) (by omega)), hI, hL.fr (fun a q1 q2 => g a (by omega) (by omega))⟩, ⟨g5c, g5d, e8⟩, hB.fr (fun a q1 q2 => g a (by omega) (by omega)), ⟨?_, ?_, ?_, ?_⟩, ?_, ?_, ?_⟩⟩ ⟨fun a ha => g a (by omega) (by omega), fun _ => rfl⟩
      · rw [g 39 (by decide) (by decide)]; exact p1
      · rw [g 39 (by decide) (by decide)]; exact p2
      · rw [g 40 (by decide) (by decide)]; exact p3
      · rw [g 41 (by decide) (by decide), g 42 (by decide) (by decide)]; exact p4
      · rw [g 0 (by decide) (by decide)]; exact r1
      · rw [g 0 (by decide) (by decide)]; exact r2
      · rw [g 0 (by decide) (by decide)]; exact r3
    refine V_aload_n 1 0 rfl _ rfl rfl dX10_feed_0 rfl ?_
    refine V_getR 4 0 10 0 1 (hRS 0 0 (by decide)) flX10_10 rfl rfl rfl (by decide) dX10_feed_1 rfl ?_
    refine V_getI 7 1 8 1 (nI s.tn) t1 flX10_92 rfl rfl rfl (by decide) dX10_feed_4 rfl ?_
    refine V_bipush 9 (20) rfl dX10_feed_7 rfl ?_
    refine V_iadd 10 dX10_feed_9 rfl ?_
    refine V_rw (nI_add s.tn 20) ?_
    refine V_sipush 13 (600) rfl dX10_feed_10 rfl ?_
    refine V_icmp_le 18 16 rfl dX10_feed_13 rfl (fun c13 => ?_) (fun c13 => absurd (nI_le (b := 600) (by omega) (by decide)) c13)
    refine V_aload_n 19 0 rfl _ rfl rfl dX10_feed_18 rfl ?_
    refine V_getR 22 0 10 0 1 (hRS 0 0 (by decide)) flX10_10 rfl rfl rfl (by decide) dX10_feed_19 rfl ?_
    refine V_iload_n 23 1 rfl rfl dX10_feed_22 rfl ?_
    refine V_callV (K' := 0) (S' := 0) 26 1 8 1 [.int v1] mkX8_append lkX10_96 (by decide) rfl rfl (by decide) rfl (Nat.le_of_ble_eq_true rfl) (Nat.le_of_ble_eq_true rfl) (Nat.le_of_ble_eq_true rfl) (Nat.le_of_ble_eq_true rfl) rfl rfl dX10_feed_23 rfl (c_X8_append (s := s.tn) (t := s.t) hRK t1 (by omega) t2 (fun I1 g1a g1b g1c g1d => ?_))
    refine Kq_v (k' := 0) (sl' := 0) rfl rfl ?_
    refine V_aload_n 27 0 rfl _ rfl rfl dX10_feed_26 rfl ?_
    refine V_getR 30 0 10 0 1 (hRS 0 0 (by decide)) flX10_10 rfl rfl rfl (by decide) dX10_feed_27 rfl ?_
    refine V_iload_n 31 2 rfl rfl dX10_feed_30 rfl ?_
    refine V_callV (K' := 0) (S' := 0) 34 1 8 1 [.int v2] mkX8_append lkX10_96 (by decide) rfl rfl (by decide) rfl (Nat.le_of_ble_eq_true rfl) (Nat.le_of_ble_eq_true rfl) (Nat.le_of_ble_eq_true rfl) (Nat.le_of_ble_eq_true rfl) rfl rfl dX10_feed_31 rfl (c_X8_append (s := (s.tn + 4)) (t := (ap4 s.t s.tn v1)) hRK g1c (by omega) g1d (fun I2 g2a g2b g2c g2d => ?_))
    refine Kq_v (k' := 0) (sl' := 0) rfl rfl ?_
    refine V_aload_n 35 0 rfl _ rfl rfl dX10_feed_34 rfl ?_
    refine V_getR 38 0 10 0 1 (hRS 0 0 (by decide)) flX10_10 rfl rfl rfl (by decide) dX10_feed_35 rfl ?_
    refine V_iload_n 39 3 rfl rfl dX10_feed_38 rfl ?_
    refine V_callV (K' := 0) (S' := 0) 42 1 8 1 [.int v3] mkX8_append lkX10_96 (by decide) rfl rfl (by decide) rfl (Nat.le_of_ble_eq_true rfl) (Nat.le_of_ble_eq_true rfl) (Nat.le_of_ble_eq_true rfl) (Nat.le_of_ble_eq_true rfl) rfl rfl dX10_feed_39 rfl (c_X8_append (s := (s.tn + 8)) (t := (ap4 (ap4 s.t s.tn v1) (s.tn + 4) v2)) hRK g2c (by omega) g2d (fun I3 g3a g3b g3c g3d => ?_))
    refine Kq_v (k' := 0) (sl' := 0) rfl rfl ?_
    refine V_aload_n 43 0 rfl _ rfl rfl dX10_feed_42 rfl ?_
    refine V_getR 46 0 10 0 1 (hRS 0 0 (by decide)) flX10_10 rfl rfl rfl (by decide) dX10_feed_43 rfl ?_
    refine V_iload 48 4 rfl dX10_feed_46 rfl ?_
    refine V_callV (K' := 0) (S' := 0) 51 1 8 1 [.int v4] mkX8_append lkX10_96 (by decide) rfl rfl (by decide) rfl (Nat.le_of_ble_eq_true rfl) (Nat.le_of_ble_eq_true rfl) (Nat.le_of_ble_eq_true rfl) (Nat.le_of_ble_eq_true rfl) rfl rfl dX10_feed_48 rfl (c_X8_append (s := (s.tn + 12)) (t := (ap4 (ap4 (ap4 s.t s.tn v1) (s.tn + 4) v2) (s.tn + 8) v3)) hRK g3c (by omega) g3d (fun I4 g4a g4b g4c g4d => ?_))
    refine Kq_v (k' := 0) (sl' := 0) rfl rfl ?_
    refine V_aload_n 52 0 rfl _ rfl rfl dX10_feed_51 rfl ?_
    refine V_getR 55 0 10 0 1 (hRS 0 0 (by decide)) flX10_10 rfl rfl rfl (by decide) dX10_feed_52 rfl ?_
    refine V_iload 57 5 rfl dX10_feed_55 rfl ?_
    refine V_callV (K' := 0) (S' := 0) 60 1 8 1 [.int v5] mkX8_append lkX10_96 (by decide) rfl rfl (by decide) rfl (Nat.le_of_ble_eq_true rfl) (Nat.le_of_ble_eq_true rfl) (Nat.le_of_ble_eq_true rfl) (Nat.le_of_ble_eq_true rfl) rfl rfl dX10_feed_57 rfl (c_X8_append (s := (s.tn + 16)) (t := (ap4 (ap4 (ap4 (ap4 s.t s.tn v1) (s.tn + 4) v2) (s.tn + 8) v3) (s.tn + 12) v4)) hRK g4c (by omega) g4d (fun I5 g5a g5b g5c g5d => ?_))
    refine Kq_v (k' := 0) (sl' := 0) rfl rfl ?_
    refine V_aload_n 61 0 rfl _ rfl rfl dX10_feed_60 rfl ?_
    refine V_getR 64 0 10 0 1 (hRS 0 0 (by decide)) flX10_10 rfl rfl rfl (by decide) dX10_feed_61 rfl ?_
    refine V_getI 67 1 8 1 (nI (s.tn + 20)) g5c flX10_92 rfl rfl rfl (by decide) dX10_feed_64 rfl ?_
    refine V_ret_i rfl rfl (Nat.le_of_ble_eq_true rfl) (fun h => absurd h (by decide)) (Nat.le_of_ble_eq_true rfl) (fin g1a g1b g2a g2b g3a g3b g4a g4b g5a g5b g5c g5d) dX10_feed_67
theorem c_X10_law {G : Gx} {d : Nat} {I : FI} {R : FR} {J : FJ} {Q : Po} {s : SG} (hX : SC I R s) (hS : SI s) {x : Int32} (hq : HC I R J Q (lawT s x)) : Cc G mX10_law (d + 900) 8 48 [rf G 0, .int x] 103 I R J Q := by
  obtain ⟨c, l, b, hXx⟩ := hX
  obtain ⟨⟨hRS, hc, hl, hb, hC, hW, hD, hI, hL⟩, ⟨t1, t2, t3⟩, hB, ⟨p1, p2, p3, p4⟩, r1, r2, r3⟩ := id hXx
  obtain ⟨s1, s2, s3, s4, s5, s6, s7, s8, s9, s10⟩ := hS
  obtain ⟨c2, ec2⟩ : ∃ c2, c2 = 55 - c := ⟨_, rfl⟩
  obtain ⟨l2, el2⟩ : ∃ l2, l2 = 69 - l := ⟨_, rfl⟩
  obtain ⟨b2, eb2⟩ : ∃ b2, b2 = 129 - b := ⟨_, rfl⟩
  have hc2 : c2 = 4 ∨ c2 = 51 := by omega
  have hl2 : l2 = 11 ∨ l2 = 58 := by omega
  have hb2 : b2 = 63 ∨ b2 = 66 := by omega
  have hRK := hRS.K
  have hR08 : R 0 8 = some c2 := (hRS 0 8 (by decide)).trans (by rw [ec2]; rfl)
  have hR09 : R 0 9 = some l2 := (hRS 0 9 (by decide)).trans (by rw [el2]; rfl)
  have hR0b : R 0 11 = some b2 := (hRS 0 11 (by decide)).trans (by rw [eb2]; rfl)
  have hR3c : R 3 0 = some c := hRS 3 0 (by decide)
  have hR3l : R 3 1 = some l := hRS 3 1 (by decide)
  have hd : dLw 6 = 260 := rfl
  show V _ _ _ _ _ _ _ _ [(0, rf G 0), (1, .int x)] [] _ _ _ _ _
  refine V_aload_n 1 0 rfl _ rfl rfl dX10_law_0 rfl ?_
  refine V_iload_n 2 1 rfl rfl dX10_law_1 rfl ?_
  refine V_sipush 5 (150) rfl dX10_law_2 rfl ?_
  refine V_callV (K' := 1) (S' := 6) 8 0 10 2 [.int x, .int 150] mkX10_needText lkX10_100 (by decide) rfl rfl (by decide) rfl (Nat.le_of_ble_eq_true rfl) (Nat.le_of_ble_eq_true rfl) (Nat.le_of_ble_eq_true rfl) (Nat.le_of_ble_eq_true rfl) rfl rfl dX10_law_5 rfl (c_X10_needText (most := 150) (hRS 0 0 (by decide)) t1 s4 (by decide) (fun a5 => ?_) (fun a5 => by rw [lawT_n a5] at hq; exact hq _ R ⟨c, l, b, hXx.bump 1 (by decide)⟩ ⟨fun a ha => up2_n _ _ _ (by omega), fun _ => rfl⟩))
  refine Kq_v (k' := 1) (sl' := 6) rfl rfl ?_
  obtain ⟨z, hz, hzm, rfl⟩ := ckT_z s4 a5
  refine V_aload_n 9 0 rfl _ rfl rfl dX10_law_8 rfl ?_
  refine V_getR 12 0 10 0 1 (hRS 0 0 (by decide)) flX10_10 rfl rfl rfl (by decide) dX10_law_9 rfl ?_
  refine V_iload_n 13 1 rfl rfl dX10_law_12 rfl ?_
  refine V_callV (K' := 0) (S' := 0) 16 1 8 1 [.int (nI z)] mkX8_open lkX10_104 (by decide) rfl rfl (by decide) rfl (Nat.le_of_ble_eq_true rfl) (Nat.le_of_ble_eq_true rfl) (Nat.le_of_ble_eq_true rfl) (Nat.le_of_ble_eq_true rfl) rfl rfl dX10_law_13 rfl (c_X8_open hRK t1 hz s4 t2 s5 (fun I1 hT1 h11 hf1 => ?_))
  refine Kq_v (k' := 1) (sl' := 6) rfl rfl ?_
  refine V_aload_n 17 0 rfl _ rfl rfl dX10_law_16 rfl ?_
  refine V_getR 20 0 10 9 l2 hR09 flX10_71 rfl rfl rfl (by decide) dX10_law_17 rfl ?_
  refine V_aload_n 21 0 rfl _ rfl rfl dX10_law_20 rfl ?_
  refine V_getR 24 0 10 0 1 (hRS 0 0 (by decide)) flX10_10 rfl rfl rfl (by decide) dX10_law_21 rfl ?_
  refine V_callV (K' := 0) (S' := 0) 27 l2 5 1 [rf G 1] mkX5_readText lkX10_130 (by decide) rfl (ly_l hl2).1 (by omega) rfl (Nat.le_of_ble_eq_true rfl) (Nat.le_of_ble_eq_true rfl) (Nat.le_of_ble_eq_true rfl) (Nat.le_of_ble_eq_true rfl) rfl rfl dX10_law_24 rfl (c_X5_readText hRK hT1 hl2 hzm (by omega) (fun e2 ps2 I2 eK hL2 hF2 hp2 => ?_) (fun k2 q2 ps2 I2 eK hk2 hk3 hq2 hF2 hp2 => ?_))
  · refine Kq_i (k' := 1) (sl' := 6) rfl rfl ?_
    rw [lawT_k s4 hz hzm eK] at hq
    refine V_if_ne 41 30 rfl dX10_law_27 rfl (fun c27 => ?_) (fun c27 => absurd c27 (by decide))
    refine V_aload_n 42 0 rfl _ rfl rfl dX10_law_41 rfl ?_
    refine V_getR 45 0 10 1 3 (hRS 0 1 (by decide)) flX10_19 rfl rfl rfl (by decide) dX10_law_42 rfl ?_
    refine V_getR 48 3 7 1 l hR3l flX10_114 rfl rfl rfl (by decide) dX10_law_45 rfl ?_
    refine V_astore_n 49 _ rfl [(2, rf G l), (0, rf G 0), (1, .int (nI z))] (by decide) rfl rfl dX10_law_48 rfl ?_
    refine V_aload_n 50 1 rfl _ rfl rfl dX10_law_49 rfl ?_
    refine V_getR 53 0 10 1 3 (hRS 0 1 (by decide)) flX10_19 rfl rfl rfl (by decide) dX10_law_50 rfl ?_
    refine V_aload_n 54 1 rfl _ rfl rfl dX10_law_53 rfl ?_
    refine V_getR 57 0 10 9 l2 hR09 flX10_71 rfl rfl rfl (by decide) dX10_law_54 rfl ?_
    refine V_putR 60 3 7 1 l2 flX10_114 rfl rfl rfl (by decide) (Or.inl rfl) dX10_law_57 rfl ?_
    refine V_aload_n 61 1 rfl _ rfl rfl dX10_law_60 rfl ?_
    refine V_aload_n 62 0 rfl _ rfl rfl dX10_law_61 rfl ?_
    refine V_putR 65 0 10 9 l flX10_71 rfl rfl rfl (by decide) (Or.inl rfl) dX10_law_62 rfl ?_
    obtain ⟨R2, eR2⟩ : ∃ R2, R2 = upR (upR R 3 1 (some l2)) 0 9 (some l) := ⟨_, rfl⟩
    have hRS2 : RS R2 c l2 b := by rw [eR2]; exact hRS.l el2 hl
    have hR69 : ∀ k, R2 69 k = R 69 k := fun k => by rw [eR2, upR_n _ _ _ (by decide), upR_n _ _ _ (by decide)]
    rw [← eR2]
    have g : ∀ a, a ≠ 1 → (a < l2 ∨ l2 + 3 < a) → tp s.t z I2 ps2 0 (-1) a = I a := fun a h1 h2 => by rw [tp_n h1, hF2 a h2]; exact hf1 a h1
    have hx : SCx (tp s.t z I2 ps2 0 (-1)) R2 c l2 b (laS s e2) := by
      refine ⟨⟨hRS2, hc, hl2, hb, hC.fr (fun a q1 q2 => g a (by omega) (by omega)), hW, hD.fr (fun a q1 q2 => g a (by omega) (by omega)), hI, hL2.fr (fun a q1 q2 => tp_n (by omega))⟩, ⟨?_, ?_, tp_18⟩, hB.fr (fun a q1 q2 => g a (by omega) (by omega)), ⟨?_, ?_, ?_, ?_⟩, ?_, ?_, ?_⟩
      · rw [tp_11, hF2 1 (by omega)]; exact h11
      · rw [g 2 (by decide) (by omega)]; exact t2
      · rw [g 39 (by decide) (by omega)]; exact p1
      · rw [g 39 (by decide) (by omega)]; exact p2
      · rw [g 40 (by decide) (by omega)]; exact p3
      · rw [g 41 (by decide) (by omega), g 42 (by decide) (by omega)]; exact p4
      · rw [g 0 (by decide) (by omega)]; exact r1
      · rw [g 0 (by decide) (by omega)]; exact r2
      · rw [g 0 (by decide) (by omega)]; exact r3
    refine V_iconst 66 (1) rfl dX10_law_65 rfl ?_
    refine V_ret_i rfl rfl (Nat.le_of_ble_eq_true rfl) (fun h => absurd h (by decide)) (Nat.le_of_ble_eq_true rfl) (hq _ R2 ⟨c, l2, b, hx⟩ ⟨fun a ha => g a (by omega) (by omega), hR69⟩) dX10_law_66
  · refine Kq_i (k' := 1) (sl' := 6) rfl rfl ?_
    rw [lawT_b s4 hz hzm eK] at hq
    have g : ∀ a, a ≠ 1 → (a < l2 ∨ l2 + 3 < a) → tp s.t z I2 ps2 (nI k2) (nI q2) a = I a := fun a h1 h2 => by rw [tp_n h1, hF2 a h2]; exact hf1 a h1
    have hx := hXx.fr (I' := tp s.t z I2 ps2 (nI k2) (nI q2)) (tn' := 0) (fl' := nI q2) (fun a ha => g a (by omega) (by omega)) (by rw [tp_11, hF2 1 (by omega)]; exact h11) tp_18
    refine V_if_ne 41 30 rfl dX10_law_27 rfl (fun c27 => absurd c27 (by decide)) (fun c27 => ?_)
    refine V_aload_n 31 0 rfl _ rfl rfl dX10_law_30 rfl ?_
    refine V_getR 34 0 10 0 1 (hRS 0 0 (by decide)) flX10_10 rfl rfl rfl (by decide) dX10_law_31 rfl ?_
    refine V_getI 37 1 8 7 (nI k2) tp_17 flX10_111 rfl rfl rfl (by decide) dX10_law_34 rfl ?_
    refine V_bipush 39 (10) rfl dX10_law_37 rfl ?_
    refine V_isub 40 dX10_law_39 rfl ?_
    refine V_ret_i rfl rfl (Nat.le_of_ble_eq_true rfl) (fun h => absurd h (by decide)) (Nat.le_of_ble_eq_true rfl) (hq _ R ⟨c, l, b, hx⟩ ⟨fun a ha => g a (by omega) (by omega), fun _ => rfl⟩) dX10_law_40
theorem c_X10_book {G : Gx} {d : Nat} {I : FI} {R : FR} {J : FJ} {Q : Po} {s : SG} (hX : SC I R s) (hS : SI s) {x : Int32} (hq : HC I R J Q (bookT s x)) : Cc G mX10_book (d + 900) 8 48 [rf G 0, .int x] 103 I R J Q := by
  obtain ⟨c, l, b, hXx⟩ := hX
  obtain ⟨⟨hRS, hc, hl, hb, hC, hW, hD, hI, hL⟩, ⟨t1, t2, t3⟩, hB, ⟨p1, p2, p3, p4⟩, r1, r2, r3⟩ := id hXx
  obtain ⟨s1, s2, s3, s4, s5, s6, s7, s8, s9, s10⟩ := hS
  obtain ⟨c2, ec2⟩ : ∃ c2, c2 = 55 - c := ⟨_, rfl⟩
  obtain ⟨l2, el2⟩ : ∃ l2, l2 = 69 - l := ⟨_, rfl⟩
  obtain ⟨b2, eb2⟩ : ∃ b2, b2 = 129 - b := ⟨_, rfl⟩
  have hc2 : c2 = 4 ∨ c2 = 51 := by omega
  have hl2 : l2 = 11 ∨ l2 = 58 := by omega
  have hb2 : b2 = 63 ∨ b2 = 66 := by omega
  have hRK := hRS.K
  have hR08 : R 0 8 = some c2 := (hRS 0 8 (by decide)).trans (by rw [ec2]; rfl)
  have hR09 : R 0 9 = some l2 := (hRS 0 9 (by decide)).trans (by rw [el2]; rfl)
  have hR0b : R 0 11 = some b2 := (hRS 0 11 (by decide)).trans (by rw [eb2]; rfl)
  have hR3c : R 3 0 = some c := hRS 3 0 (by decide)
  have hR3l : R 3 1 = some l := hRS 3 1 (by decide)
  show V _ _ _ _ _ _ _ _ [(0, rf G 0), (1, .int x)] [] _ _ _ _ _
  refine V_aload_n 1 0 rfl _ rfl rfl dX10_book_0 rfl ?_
  refine V_iload_n 2 1 rfl rfl dX10_book_1 rfl ?_
  refine V_bipush 4 (60) rfl dX10_book_2 rfl ?_
  refine V_callV (K' := 1) (S' := 6) 7 0 10 2 [.int x, .int 60] mkX10_needText lkX10_100 (by decide) rfl rfl (by decide) rfl (Nat.le_of_ble_eq_true rfl) (Nat.le_of_ble_eq_true rfl) (Nat.le_of_ble_eq_true rfl) (Nat.le_of_ble_eq_true rfl) rfl rfl dX10_book_4 rfl (c_X10_needText (most := 60) (hRS 0 0 (by decide)) t1 s4 (by decide) (fun a5 => ?_) (fun a5 => by rw [bookT_n a5] at hq; exact hq _ R ⟨c, l, b, hXx.bump 1 (by decide)⟩ ⟨fun a ha => up2_n _ _ _ (by omega), fun _ => rfl⟩))
  refine Kq_v (k' := 1) (sl' := 6) rfl rfl ?_
  obtain ⟨z, hz, hzm, rfl⟩ := ckT_z s4 a5
  refine V_aload_n 8 0 rfl _ rfl rfl dX10_book_7 rfl ?_
  refine V_getR 11 0 10 0 1 (hRS 0 0 (by decide)) flX10_10 rfl rfl rfl (by decide) dX10_book_8 rfl ?_
  refine V_iload_n 12 1 rfl rfl dX10_book_11 rfl ?_
  refine V_callV (K' := 0) (S' := 0) 15 1 8 1 [.int (nI z)] mkX8_open lkX10_104 (by decide) rfl rfl (by decide) rfl (Nat.le_of_ble_eq_true rfl) (Nat.le_of_ble_eq_true rfl) (Nat.le_of_ble_eq_true rfl) (Nat.le_of_ble_eq_true rfl) rfl rfl dX10_book_12 rfl (c_X8_open hRK t1 hz s4 t2 s5 (fun I1 hT1 h11 hf1 => ?_))
  refine Kq_v (k' := 1) (sl' := 6) rfl rfl ?_
  refine V_aload_n 16 0 rfl _ rfl rfl dX10_book_15 rfl ?_
  refine V_getR 19 0 10 11 b2 hR0b flX10_82 rfl rfl rfl (by decide) dX10_book_16 rfl ?_
  refine V_aload_n 20 0 rfl _ rfl rfl dX10_book_19 rfl ?_
  refine V_getR 23 0 10 0 1 (hRS 0 0 (by decide)) flX10_10 rfl rfl rfl (by decide) dX10_book_20 rfl ?_
  refine V_callV (K' := 0) (S' := 0) 26 b2 1 1 [rf G 1] mkX1_readText lkX10_150 (by decide) rfl (ly_b hb2).1 (by omega) rfl (Nat.le_of_ble_eq_true rfl) (Nat.le_of_ble_eq_true rfl) (Nat.le_of_ble_eq_true rfl) (Nat.le_of_ble_eq_true rfl) rfl rfl dX10_book_23 rfl (c_X1_readText hRK hT1 hb2 (fun n2 bk2 ps2 I2 eK hB2 hF2 hp2 => ?_) (fun k2 q2 ps2 I2 eK hk2 hk3 hF2 hp2 => ?_))
  · refine Kq_i (k' := 1) (sl' := 6) rfl rfl ?_
    rw [bookT_k s4 hz hzm eK] at hq
    refine V_if_ne 40 29 rfl dX10_book_26 rfl (fun c26 => ?_) (fun c26 => absurd c26 (by decide))
    refine V_aload_n 41 0 rfl _ rfl rfl dX10_book_40 rfl ?_
    refine V_getR 44 0 10 10 b (hRS 0 10 (by decide)) flX10_78 rfl rfl rfl (by decide) dX10_book_41 rfl ?_
    refine V_astore_n 45 _ rfl [(2, rf G b), (0, rf G 0), (1, .int (nI z))] (by decide) rfl rfl dX10_book_44 rfl ?_
    refine V_aload_n 46 1 rfl _ rfl rfl dX10_book_45 rfl ?_
    refine V_aload_n 47 1 rfl _ rfl rfl dX10_book_46 rfl ?_
    refine V_getR 50 0 10 11 b2 hR0b flX10_82 rfl rfl rfl (by decide) dX10_book_47 rfl ?_
    refine V_putR 53 0 10 10 b2 flX10_78 rfl rfl rfl (by decide) (Or.inl rfl) dX10_book_50 rfl ?_
    refine V_aload_n 54 1 rfl _ rfl rfl dX10_book_53 rfl ?_
    refine V_aload_n 55 0 rfl _ rfl rfl dX10_book_54 rfl ?_
    refine V_putR 58 0 10 11 b flX10_82 rfl rfl rfl (by decide) (Or.inl rfl) dX10_book_55 rfl ?_
    obtain ⟨R2, eR2⟩ : ∃ R2, R2 = upR (upR R 0 10 (some b2)) 0 11 (some b) := ⟨_, rfl⟩
    have hRS2 : RS R2 c l b2 := by rw [eR2]; exact hRS.b eb2 hb
    have hR69 : ∀ k, R2 69 k = R 69 k := fun k => by rw [eR2, upR_n _ _ _ (by decide), upR_n _ _ _ (by decide)]
    rw [← eR2]
    have g : ∀ a, a ≠ 1 → (a < b2 ∨ b2 + 2 < a) → tp s.t z I2 ps2 0 (-1) a = I a := fun a h1 h2 => by rw [tp_n h1, hF2 a h2]; exact hf1 a h1
    have hBx : BookC (tp s.t z I2 ps2 0 (-1)) b2 n2 bk2 := hB2.fr (fun a q1 q2 => tp_n (by omega))
    have hx : SCx (tp s.t z I2 ps2 0 (-1)) R2 c l b2 (boS s n2 bk2) := by
      refine ⟨⟨hRS2, hc, hl, hb2, hC.fr (fun a q1 q2 => g a (by omega) (by omega)), hW, hD.fr (fun a q1 q2 => g a (by omega) (by omega)), hI, hL.fr (fun a q1 q2 => g a (by omega) (by omega))⟩, ⟨?_, ?_, tp_18⟩, hBx, ⟨?_, ?_, ?_, ?_⟩, ?_, ?_, ?_⟩
      · rw [tp_11, hF2 1 (by omega)]; exact h11
      · rw [g 2 (by decide) (by omega)]; exact t2
      · rw [g 39 (by decide) (by omega)]; exact p1
      · rw [g 39 (by decide) (by omega)]; exact p2
      · rw [g 40 (by decide) (by omega)]; exact p3
      · rw [g 41 (by decide) (by omega), g 42 (by decide) (by omega)]; exact p4
      · rw [g 0 (by decide) (by omega)]; exact r1
      · rw [g 0 (by decide) (by omega)]; exact r2
      · rw [g 0 (by decide) (by omega)]; exact r3
    refine V_aload_n 59 1 rfl _ rfl rfl dX10_book_58 rfl ?_
    refine V_getR 62 0 10 10 b2 (hRS2 0 10 (by decide)) flX10_78 rfl rfl rfl (by decide) dX10_book_59 rfl ?_
    refine V_getI 65 b2 1 2 (nI n2) hBx.2.1 flX10_120 rfl (ly_b hb2).1 rfl (by omega) dX10_book_62 rfl ?_
    refine V_ret_i rfl rfl (Nat.le_of_ble_eq_true rfl) (fun h => absurd h (by decide)) (Nat.le_of_ble_eq_true rfl) (hq _ R2 ⟨c, l, b2, hx⟩ ⟨fun a ha => g a (by omega) (by omega), hR69⟩) dX10_book_65
  · refine Kq_i (k' := 1) (sl' := 6) rfl rfl ?_
    rw [bookT_b s4 hz hzm eK] at hq
    have g : ∀ a, a ≠ 1 → (a < b2 ∨ b2 + 2 < a) → tp s.t z I2 ps2 (nI k2) (nI q2) a = I a := fun a h1 h2 => by rw [tp_n h1, hF2 a h2]; exact hf1 a h1
    have hx := hXx.fr (I' := tp s.t z I2 ps2 (nI k2) (nI q2)) (tn' := 0) (fl' := nI q2) (fun a ha => g a (by omega) (by omega)) (by rw [tp_11, hF2 1 (by omega)]; exact h11) tp_18
    refine V_if_ne 40 29 rfl dX10_book_26 rfl (fun c26 => absurd c26 (by decide)) (fun c26 => ?_)
    refine V_aload_n 30 0 rfl _ rfl rfl dX10_book_29 rfl ?_
    refine V_getR 33 0 10 0 1 (hRS 0 0 (by decide)) flX10_10 rfl rfl rfl (by decide) dX10_book_30 rfl ?_
    refine V_getI 36 1 8 7 (nI k2) tp_17 flX10_111 rfl rfl rfl (by decide) dX10_book_33 rfl ?_
    refine V_bipush 38 (10) rfl dX10_book_36 rfl ?_
    refine V_isub 39 dX10_book_38 rfl ?_
    refine V_ret_i rfl rfl (Nat.le_of_ble_eq_true rfl) (fun h => absurd h (by decide)) (Nat.le_of_ble_eq_true rfl) (hq _ R ⟨c, l, b, hx⟩ ⟨fun a ha => g a (by omega) (by omega), fun _ => rfl⟩) dX10_book_39
