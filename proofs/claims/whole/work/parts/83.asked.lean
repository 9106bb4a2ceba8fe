/-! ===== the questions over the whole state ===== -/
theorem ck1W {x lo hi : Int32} {o : Oc} (h : ∀ k, o = .inr k → k = 1) : ∀ k, ckW x lo hi o = .inr k → k = 1 := fun k e => by
  unfold ckW at e; split at e
  · exact h k e
  · cases e; rfl
theorem ck1I {v : Int32} : ∀ k, (Sum.inl v : Oc) = .inr k → k = 1 := fun _ e => by cases e
theorem ck0N {x : Int32} {c : Nat} {o : Oc} (h : ∀ k, o = .inr k → k = 0) : ∀ k, ckN x c o = .inr k → k = 0 := fun k e => by
  unfold ckN at e; split at e
  · exact h k e
  · cases e; rfl
theorem ck0I {v : Int32} : ∀ k, (Sum.inl v : Oc) = .inr k → k = 0 := fun _ e => by cases e
theorem ckLI {v : Int64} : ∀ k, (Sum.inl v : OcL) = .inr k → k = 1 := fun _ e => by cases e
theorem ckLW {x lo hi : Int32} {o : OcL} (h : ∀ k, o = .inr k → k = 1) : ∀ k, ckL x lo hi o = .inr k → k = 1 := fun k e => by
  unfold ckL at e; split at e
  · exact h k e
  · cases e; rfl
/-- the class has done something: the reference holds what it held -/
theorem SM.cl {I I' : FI} {R R' : FR} {s : SG} (h : SM I R s) (hf : FrCl I I' R R') : SM I' R' s := by
  obtain ⟨⟨m1, m2, m3, m4, m5, m6, m7⟩, ⟨t1, t2, t3⟩, ⟨b1, b2⟩, ⟨p1, p2, p3, p4⟩, r1, r2, r3⟩ := h
  obtain ⟨g, gR⟩ := hf
  refine ⟨⟨fun k => by rw [gR k]; exact m1 k, m2.fr (by rw [g 69 (by decide)]) (by rw [g 69 (by decide)]) (by rw [g 69 (by decide)]) (fun a q1 q2 => g a (by omega)), m3, fun k hk => by rw [g 88 (by decide)]; exact m4 k hk, m5, m6.fr (by rw [g 69 (by decide)]) (g 82 (by decide)) (g 83 (by decide)), m7⟩, ⟨?_, ?_, ?_⟩, ⟨?_, ?_⟩, ⟨?_, ?_, ?_, ?_⟩, ?_, ?_, ?_⟩
  · rw [g 69 (by decide)]; exact t1
  · rw [g 71 (by decide)]; exact t2
  · rw [g 69 (by decide)]; exact t3
  · rw [g 69 (by decide)]; exact b1
  · rw [g 93 (by decide)]; exact b2
  · rw [g 69 (by decide)]; exact p1
  · rw [g 69 (by decide)]; exact p2
  · rw [g 90 (by decide)]; exact p3
  · rw [g 101 (by decide)]; exact p4
  · rw [g 69 (by decide)]; exact r1
  · rw [g 70 (by decide)]; exact r2
  · rw [g 70 (by decide)]; exact r3
theorem SC.rf {I I' : FI} {R : FR} {s : SG} (h : SC I R s) (g : ∀ a, a < 69 → I' a = I a) : SC I' R s := by
  obtain ⟨c, l, b, ⟨⟨h1, hc, hl, hb, h5, h6, h7, h8, h9⟩, ⟨t1, t2, t3⟩, hB, ⟨p1, p2, p3, p4⟩, r1, r2, r3⟩⟩ := h
  refine ⟨c, l, b, ⟨⟨h1, hc, hl, hb, h5.fr (fun a q1 q2 => g a (by omega)), h6, h7.fr (fun a q1 q2 => g a (by omega)), h8, h9.fr (fun a q1 q2 => g a (by omega))⟩, ⟨?_, ?_, ?_⟩, hB.fr (fun a q1 q2 => g a (by omega)), ⟨?_, ?_, ?_, ?_⟩, ?_, ?_, ?_⟩⟩
  · rw [g 1 (by decide)]; exact t1
  · rw [g 2 (by decide)]; exact t2
  · rw [g 1 (by decide)]; exact t3
  · rw [g 39 (by decide)]; exact p1
  · rw [g 39 (by decide)]; exact p2
  · rw [g 40 (by decide)]; exact p3
  · rw [g 41 (by decide), g 42 (by decide)]; exact p4
  · rw [g 0 (by decide)]; exact r1
  · rw [g 0 (by decide)]; exact r2
  · rw [g 0 (by decide)]; exact r3
def HRL (I : FI) (R : FR) (J : FJ) (Q : Po) (cd : Nat) (x : OcL × SG) : Prop := match x.1 with
  | .inl v => ∀ I', SM I' R x.2 → (∀ a, a < 69 → I' a = I a) → I' 69 0 = 0 → I' 102 = I 102 → Q (.inl (some (.long v))) 103 I' R J
  | .inr k => ∀ I', SM I' R x.2 → (∀ a, a < 69 → I' a = I a) → I' 69 0 = nI (if k = 0 then 1 else cd) → I' 102 = I 102 → Q (.inl (some (.long 0))) 103 I' R J
theorem HRL.q {I : FI} {R : FR} {J : FJ} {Q : Po} {s : SG} {o : OcL} {cd : Nat} (hX : SM I R s) (ho : ∀ k, o = .inr k → k < 2) (h : HRL I R J Q cd (o, aftL o s)) : HoLM I R J Q cd o := by
  cases o with
  | inl v => exact fun I' hf => h I' (hX.q hf) (fun a ha => hf.1 a (by omega) (by omega) (by omega) (by omega) (by omega) (by omega)) hf.2.1 (hf.1 102 (by decide) (by decide) (by decide) (by decide) (by decide) (by decide))
  | inr k => exact fun I' g z e0 e => h I' (hX.x (ho k rfl) g z e) (fun a ha => g a (by omega) (by omega)) e0 (g 102 (by decide) (by decide))
def qO_told (s : SG) (p1 : Int32) : Oc := (ckW p1 0 10 (.inl (toldF s.K s.D (nI s.nb) s.rs p1.toNatClampNeg)))
def qT_told (s : SG) (p1 : Int32) : Tr := (qO_told s p1, aftO (qO_told s p1) s)
theorem qk_told {s : SG} {p1 : Int32} : ∀ k, (qT_told s p1).1 = .inr k → k = 1 := (ck1W ck1I)
theorem tC_told {G : Gx} {d : Nat} {I : FI} {R : FR} {J : FJ} {Q : Po} {s : SG} (hX : SC I R s) (hS : SI s) {p1 : Int32} (hq : HC I R J Q (qT_told s p1)) : Cc G mX10_told (d + 900) 8 48 [rf G 0, .int p1] 103 I R J Q := by
  obtain ⟨c, l, b, hXx⟩ := hX
  exact c_X10_told (d := d + 840) hXx.1 hXx.2.2.1.2.1 hXx.2.2.2.2.1 (HC.q hXx (fun k e => by have q := qk_told (s := s) (p1 := p1) k e; omega) hq)
theorem tM_told {G : Gx} {d : Nat} {I : FI} {R : FR} {J : FJ} {Q : Po} {s : SG} (hX : SM I R s) (hS : SI s) {p1 : Int32} (hq : HR I R J Q 1 (qT_told s p1)) : Cc G mX11_told (d + 900) 0 0 [rf G 69, .int p1] 103 I R J Q := by
  exact c_X11_told (d := d + 840) hX.1 hX.2.2.1.1 hX.2.2.2.2.1 (HR.q hX (fun k e => by have q := qk_told (s := s) (p1 := p1) k e; omega) hq)
def qO_hat (s : SG) (p1 p2 : Int32) : Oc := (ckN p1 (cH s.K) (ckW p2 0 3 (.inl (hatF s.K s.D p1.toNatClampNeg p2.toNatClampNeg))))
def qT_hat (s : SG) (p1 p2 : Int32) : Tr := (qO_hat s p1 p2, aftO (qO_hat s p1 p2) s)
theorem qk_hat {s : SG} {p1 p2 : Int32} : ∀ k, (qT_hat s p1 p2).1 = .inr k → k < 2 := (ck2N (ck2W ck2I))
theorem tC_hat {G : Gx} {d : Nat} {I : FI} {R : FR} {J : FJ} {Q : Po} {s : SG} (hX : SC I R s) (hS : SI s) {p1 p2 : Int32} (hq : HC I R J Q (qT_hat s p1 p2)) : Cc G mX10_hat (d + 900) 8 48 [rf G 0, .int p1, .int p2] 103 I R J Q := by
  obtain ⟨c, l, b, hXx⟩ := hX
  exact c_X10_hat (d := d + 840) hXx.1 (HC.q hXx (fun k e => by have q := qk_hat (s := s) (p1 := p1) (p2 := p2) k e; omega) hq)
theorem tM_hat {G : Gx} {d : Nat} {I : FI} {R : FR} {J : FJ} {Q : Po} {s : SG} (hX : SM I R s) (hS : SI s) {p1 p2 : Int32} (hq : HR I R J Q 2 (qT_hat s p1 p2)) : Cc G mX11_hat (d + 900) 0 0 [rf G 69, .int p1, .int p2] 103 I R J Q := by
  exact c_X11_hat (d := d + 840) hX.1 (HR.q hX (fun k e => by have q := qk_hat (s := s) (p1 := p1) (p2 := p2) k e; omega) hq)
def qO_ground (s : SG) (p1 p2 : Int32) : Oc := (ckN p1 (cG s.K) (ckW p2 0 3 (.inl (grF s.K s.D p1.toNatClampNeg p2.toNatClampNeg))))
def qT_ground (s : SG) (p1 p2 : Int32) : Tr := (qO_ground s p1 p2, aftO (qO_ground s p1 p2) s)
theorem qk_ground {s : SG} {p1 p2 : Int32} : ∀ k, (qT_ground s p1 p2).1 = .inr k → k < 2 := (ck2N (ck2W ck2I))
theorem tC_ground {G : Gx} {d : Nat} {I : FI} {R : FR} {J : FJ} {Q : Po} {s : SG} (hX : SC I R s) (hS : SI s) {p1 p2 : Int32} (hq : HC I R J Q (qT_ground s p1 p2)) : Cc G mX10_ground (d + 900) 8 48 [rf G 0, .int p1, .int p2] 103 I R J Q := by
  obtain ⟨c, l, b, hXx⟩ := hX
  exact c_X10_ground (d := d + 840) hXx.1 (HC.q hXx (fun k e => by have q := qk_ground (s := s) (p1 := p1) (p2 := p2) k e; omega) hq)
theorem tM_ground {G : Gx} {d : Nat} {I : FI} {R : FR} {J : FJ} {Q : Po} {s : SG} (hX : SM I R s) (hS : SI s) {p1 p2 : Int32} (hq : HR I R J Q 2 (qT_ground s p1 p2)) : Cc G mX11_ground (d + 900) 0 0 [rf G 69, .int p1, .int p2] 103 I R J Q := by
  exact c_X11_ground (d := d + 840) hX.1 (HR.q hX (fun k e => by have q := qk_ground (s := s) (p1 := p1) (p2 := p2) k e; omega) hq)
def qO_man (s : SG) (p1 p2 : Int32) : Oc := (ckN p1 (cM s.K) (ckW p2 0 7 (.inl (manF s.K s.D p1.toNatClampNeg p2.toNatClampNeg))))
def qT_man (s : SG) (p1 p2 : Int32) : Tr := (qO_man s p1 p2, aftO (qO_man s p1 p2) s)
theorem qk_man {s : SG} {p1 p2 : Int32} : ∀ k, (qT_man s p1 p2).1 = .inr k → k < 2 := (ck2N (ck2W ck2I))
theorem tC_man {G : Gx} {d : Nat} {I : FI} {R : FR} {J : FJ} {Q : Po} {s : SG} (hX : SC I R s) (hS : SI s) {p1 p2 : Int32} (hq : HC I R J Q (qT_man s p1 p2)) : Cc G mX10_man (d + 900) 8 48 [rf G 0, .int p1, .int p2] 103 I R J Q := by
  obtain ⟨c, l, b, hXx⟩ := hX
  exact c_X10_man (d := d + 840) hXx.1 (HC.q hXx (fun k e => by have q := qk_man (s := s) (p1 := p1) (p2 := p2) k e; omega) hq)
theorem tM_man {G : Gx} {d : Nat} {I : FI} {R : FR} {J : FJ} {Q : Po} {s : SG} (hX : SM I R s) (hS : SI s) {p1 p2 : Int32} (hq : HR I R J Q 2 (qT_man s p1 p2)) : Cc G mX11_man (d + 900) 0 0 [rf G 69, .int p1, .int p2] 103 I R J Q := by
  exact c_X11_man (d := d + 840) hX.1 (HR.q hX (fun k e => by have q := qk_man (s := s) (p1 := p1) (p2 := p2) k e; omega) hq)
def qO_sea (s : SG) (p1 : Int32) : Oc := (ckN p1 (cM s.K) (.inl (seaD s.K s.f s.D p1.toNatClampNeg)))
def qT_sea (s : SG) (p1 : Int32) : Tr := (qO_sea s p1, aftO (qO_sea s p1) s)
theorem qk_sea {s : SG} {p1 : Int32} : ∀ k, (qT_sea s p1).1 = .inr k → k = 0 := (ck0N ck0I)
theorem tC_sea {G : Gx} {d : Nat} {I : FI} {R : FR} {J : FJ} {Q : Po} {s : SG} (hX : SC I R s) (hS : SI s) {p1 : Int32} (hq : HC I R J Q (qT_sea s p1)) : Cc G mX10_sea (d + 900) 8 48 [rf G 0, .int p1] 103 I R J Q := by
  obtain ⟨c, l, b, hXx⟩ := hX
  exact c_X10_sea (d := d + 840) hXx.1 (HC.q hXx (fun k e => by have q := qk_sea (s := s) (p1 := p1) k e; omega) hq)
theorem tM_sea {G : Gx} {d : Nat} {I : FI} {R : FR} {J : FJ} {Q : Po} {s : SG} (hX : SM I R s) (hS : SI s) {p1 : Int32} (hq : HR I R J Q 1 (qT_sea s p1)) : Cc G mX11_sea (d + 900) 0 0 [rf G 69, .int p1] 103 I R J Q := by
  exact c_X11_sea (d := d + 840) hX.1 (HR.q hX (fun k e => by have q := qk_sea (s := s) (p1 := p1) k e; omega) hq)
def qO_would (s : SG) (p1 p2 p3 p4 p5 p6 p7 p8 : Int32) : Oc := (ckW p1 1 21 (ckW p2 0 4 (ckW p3 0 999 (ckW p4 1 99 (ckW p5 0 999 (ckW p6 0 999 (ckW p7 0 5 (ckW p8 0 900 (.inl (s.f (f8 p1 p2 p3 p4 p5 p6 p7 p8)))))))))))
def qT_would (s : SG) (p1 p2 p3 p4 p5 p6 p7 p8 : Int32) : Tr := (qO_would s p1 p2 p3 p4 p5 p6 p7 p8, aftO (qO_would s p1 p2 p3 p4 p5 p6 p7 p8) s)
theorem qk_would {s : SG} {p1 p2 p3 p4 p5 p6 p7 p8 : Int32} : ∀ k, (qT_would s p1 p2 p3 p4 p5 p6 p7 p8).1 = .inr k → k = 1 := (ck1W (ck1W (ck1W (ck1W (ck1W (ck1W (ck1W (ck1W ck1I))))))))
theorem tC_would {G : Gx} {d : Nat} {I : FI} {R : FR} {J : FJ} {Q : Po} {s : SG} (hX : SC I R s) (hS : SI s) {p1 p2 p3 p4 p5 p6 p7 p8 : Int32} (hq : HC I R J Q (qT_would s p1 p2 p3 p4 p5 p6 p7 p8)) : Cc G mX10_would (d + 900) 8 48 [rf G 0, .int p1, .int p2, .int p3, .int p4, .int p5, .int p6, .int p7, .int p8] 103 I R J Q := by
  obtain ⟨c, l, b, hXx⟩ := hX
  exact c_X10_would (d := d + 840) hXx.1 (HC.q hXx (fun k e => by have q := qk_would (s := s) (p1 := p1) (p2 := p2) (p3 := p3) (p4 := p4) (p5 := p5) (p6 := p6) (p7 := p7) (p8 := p8) k e; omega) hq)
theorem tM_would {G : Gx} {d : Nat} {I : FI} {R : FR} {J : FJ} {Q : Po} {s : SG} (hX : SM I R s) (hS : SI s) {p1 p2 p3 p4 p5 p6 p7 p8 : Int32} (hq : HR I R J Q 1 (qT_would s p1 p2 p3 p4 p5 p6 p7 p8)) : Cc G mX11_would (d + 900) 0 0 [rf G 69, .int p1, .int p2, .int p3, .int p4, .int p5, .int p6, .int p7, .int p8] 103 I R J Q := by
  exact c_X11_would (d := d + 840) hX.1 (HR.q hX (fun k e => by have q := qk_would (s := s) (p1 := p1) (p2 := p2) (p3 := p3) (p4 := p4) (p5 := p5) (p6 := p6) (p7 := p7) (p8 := p8) k e; omega) hq)
def qO_ahead (s : SG) (p1 p2 : Int32) : Oc := (ckW p1 0 99 (ckW p2 0 2 (.inl (outF (hrsD s.K s.f s.D p1.toNatClampNeg) p2.toNatClampNeg))))
def qT_ahead (s : SG) (p1 p2 : Int32) : Tr := (qO_ahead s p1 p2, aftO (qO_ahead s p1 p2) s)
theorem qk_ahead {s : SG} {p1 p2 : Int32} : ∀ k, (qT_ahead s p1 p2).1 = .inr k → k = 1 := (ck1W (ck1W ck1I))
theorem tC_ahead {G : Gx} {d : Nat} {I : FI} {R : FR} {J : FJ} {Q : Po} {s : SG} (hX : SC I R s) (hS : SI s) {p1 p2 : Int32} (hq : HC I R J Q (qT_ahead s p1 p2)) : Cc G mX10_ahead (d + 900) 8 48 [rf G 0, .int p1, .int p2] 103 I R J Q := by
  obtain ⟨c, l, b, hXx⟩ := hX
  exact c_X10_ahead (d := d + 840) hXx.1 (HC.q hXx (fun k e => by have q := qk_ahead (s := s) (p1 := p1) (p2 := p2) k e; omega) hq)
theorem tM_ahead {G : Gx} {d : Nat} {I : FI} {R : FR} {J : FJ} {Q : Po} {s : SG} (hX : SM I R s) (hS : SI s) {p1 p2 : Int32} (hq : HR I R J Q 1 (qT_ahead s p1 p2)) : Cc G mX11_ahead (d + 900) 0 0 [rf G 69, .int p1, .int p2] 103 I R J Q := by
  exact c_X11_ahead (d := d + 840) hX.1 (HR.q hX (fun k e => by have q := qk_ahead (s := s) (p1 := p1) (p2 := p2) k e; omega) hq)
def qO_doom (s : SG) (p1 : Int32) : Oc := (ckN p1 (cM s.K) (.inl (dmF s.K s.f p1.toNatClampNeg 200 0 s.D)))
def qT_doom (s : SG) (p1 : Int32) : Tr := (qO_doom s p1, aftO (qO_doom s p1) s)
theorem qk_doom {s : SG} {p1 : Int32} : ∀ k, (qT_doom s p1).1 = .inr k → k = 0 := (ck0N ck0I)
theorem tC_doom {G : Gx} {d : Nat} {I : FI} {R : FR} {J : FJ} {Q : Po} {s : SG} (hX : SC I R s) (hS : SI s) {p1 : Int32} (hq : HC I R J Q (qT_doom s p1)) : Cc G mX10_doom (d + 900) 8 48 [rf G 0, .int p1] 103 I R J Q := by
  obtain ⟨c, l, b, hXx⟩ := hX
  exact c_X10_doom (d := d + 840) hXx.1 (HC.q hXx (fun k e => by have q := qk_doom (s := s) (p1 := p1) k e; omega) hq)
theorem tM_doom {G : Gx} {d : Nat} {I : FI} {R : FR} {J : FJ} {Q : Po} {s : SG} (hX : SM I R s) (hS : SI s) {p1 : Int32} (hq : HR I R J Q 1 (qT_doom s p1)) : Cc G mX11_doom (d + 900) 0 0 [rf G 69, .int p1] 103 I R J Q := by
  exact c_X11_doom (d := d + 840) hX.1 (HR.q hX (fun k e => by have q := qk_doom (s := s) (p1 := p1) k e; omega) hq)
def qO_season (s : SG) (p1 p2 p3 p4 : Int32) : Oc := (ckW p2 0 16 (ckW p3 1 96 (ckW p4 0 3 (.inl (outF (seS s.K s.f p2 s.D p1 p3.toNatClampNeg).1 p4.toNatClampNeg)))))
def qT_season (s : SG) (p1 p2 p3 p4 : Int32) : Tr := (qO_season s p1 p2 p3 p4, aftO (qO_season s p1 p2 p3 p4) s)
theorem qk_season {s : SG} {p1 p2 p3 p4 : Int32} : ∀ k, (qT_season s p1 p2 p3 p4).1 = .inr k → k = 1 := (ck1W (ck1W (ck1W ck1I)))
theorem tC_season {G : Gx} {d : Nat} {I : FI} {R : FR} {J : FJ} {Q : Po} {s : SG} (hX : SC I R s) (hS : SI s) {p1 p2 p3 p4 : Int32} (hq : HC I R J Q (qT_season s p1 p2 p3 p4)) : Cc G mX10_season (d + 900) 8 48 [rf G 0, .int p1, .int p2, .int p3, .int p4] 103 I R J Q := by
  obtain ⟨c, l, b, hXx⟩ := hX
  exact c_X10_season (d := d + 840) hXx.1 (HC.q hXx (fun k e => by have q := qk_season (s := s) (p1 := p1) (p2 := p2) (p3 := p3) (p4 := p4) k e; omega) hq)
theorem tM_season {G : Gx} {d : Nat} {I : FI} {R : FR} {J : FJ} {Q : Po} {s : SG} (hX : SM I R s) (hS : SI s) {p1 p2 p3 p4 : Int32} (hq : HR I R J Q 1 (qT_season s p1 p2 p3 p4)) : Cc G mX11_season (d + 900) 0 0 [rf G 69, .int p1, .int p2, .int p3, .int p4] 103 I R J Q := by
  exact c_X11_season (d := d + 840) hX.1 (HR.q hX (fun k e => by have q := qk_season (s := s) (p1 := p1) (p2 := p2) (p3 := p3) (p4 := p4) k e; omega) hq)
def qO_span (s : SG) (p1 p2 p3 p4 p5 : Int32) : Oc := (ckW p2 1 20 (ckW p3 0 16 (ckW p4 1 96 (ckW p5 0 2 (.inl (spO (spF s.K s.f p3 s.D p1 p4.toNatClampNeg p2.toNatClampNeg) p5.toNatClampNeg))))))
def qT_span (s : SG) (p1 p2 p3 p4 p5 : Int32) : Tr := (qO_span s p1 p2 p3 p4 p5, aftO (qO_span s p1 p2 p3 p4 p5) s)
theorem qk_span {s : SG} {p1 p2 p3 p4 p5 : Int32} : ∀ k, (qT_span s p1 p2 p3 p4 p5).1 = .inr k → k = 1 := (ck1W (ck1W (ck1W (ck1W ck1I))))
theorem tC_span {G : Gx} {d : Nat} {I : FI} {R : FR} {J : FJ} {Q : Po} {s : SG} (hX : SC I R s) (hS : SI s) {p1 p2 p3 p4 p5 : Int32} (hq : HC I R J Q (qT_span s p1 p2 p3 p4 p5)) : Cc G mX10_span (d + 900) 8 48 [rf G 0, .int p1, .int p2, .int p3, .int p4, .int p5] 103 I R J Q := by
  obtain ⟨c, l, b, hXx⟩ := hX
  exact c_X10_span (d := d + 840) hXx.1 (HC.q hXx (fun k e => by have q := qk_span (s := s) (p1 := p1) (p2 := p2) (p3 := p3) (p4 := p4) (p5 := p5) k e; omega) hq)
theorem tM_span {G : Gx} {d : Nat} {I : FI} {R : FR} {J : FJ} {Q : Po} {s : SG} (hX : SM I R s) (hS : SI s) {p1 p2 p3 p4 p5 : Int32} (hq : HR I R J Q 1 (qT_span s p1 p2 p3 p4 p5)) : Cc G mX11_span (d + 900) 0 0 [rf G 69, .int p1, .int p2, .int p3, .int p4, .int p5] 103 I R J Q := by
  exact c_X11_span (d := d + 840) hX.1 (HR.q hX (fun k e => by have q := qk_span (s := s) (p1 := p1) (p2 := p2) (p3 := p3) (p4 := p4) (p5 := p5) k e; omega) hq)
def qO_line (s : SG) (p1 p2 : Int32) : Oc := (ckN p1 (cM s.K) (ckW p2 0 1000000 (.inl (oI (itN (cHr s.K) p2.toNatClampNeg p1.toNatClampNeg)))))
def qT_line (s : SG) (p1 p2 : Int32) : Tr := (qO_line s p1 p2, aftO (qO_line s p1 p2) s)
theorem qk_line {s : SG} {p1 p2 : Int32} : ∀ k, (qT_line s p1 p2).1 = .inr k → k < 2 := (ck2N (ck2W ck2I))
theorem tC_line {G : Gx} {d : Nat} {I : FI} {R : FR} {J : FJ} {Q : Po} {s : SG} (hX : SC I R s) (hS : SI s) {p1 p2 : Int32} (hq : HC I R J Q (qT_line s p1 p2)) : Cc G mX10_line (d + 900) 8 48 [rf G 0, .int p1, .int p2] 103 I R J Q := by
  obtain ⟨c, l, b, hXx⟩ := hX
  exact c_X10_line (d := d + 840) hXx.1 (HC.q hXx (fun k e => by have q := qk_line (s := s) (p1 := p1) (p2 := p2) k e; omega) hq)
theorem tM_line {G : Gx} {d : Nat} {I : FI} {R : FR} {J : FJ} {Q : Po} {s : SG} (hX : SM I R s) (hS : SI s) {p1 p2 : Int32} (hq : HR I R J Q 2 (qT_line s p1 p2)) : Cc G mX11_line (d + 900) 0 0 [rf G 69, .int p1, .int p2] 103 I R J Q := by
  exact c_X11_line (d := d + 840) hX.1 (HR.q hX (fun k e => by have q := qk_line (s := s) (p1 := p1) (p2 := p2) k e; omega) hq)
def qO_meets (s : SG) (p1 p2 p3 : Int32) : Oc := (ckN p1 (cM s.K) (ckN p2 (cM s.K) (ckW p3 0 1 (.inl (beO (mtF (cHr s.K) p1.toNatClampNeg p2.toNatClampNeg (cM s.K)) p3.toNatClampNeg)))))
def qT_meets (s : SG) (p1 p2 p3 : Int32) : Tr := (qO_meets s p1 p2 p3, aftO (qO_meets s p1 p2 p3) s)
theorem qk_meets {s : SG} {p1 p2 p3 : Int32} : ∀ k, (qT_meets s p1 p2 p3).1 = .inr k → k < 2 := (ck2N (ck2N (ck2W ck2I)))
theorem tC_meets {G : Gx} {d : Nat} {I : FI} {R : FR} {J : FJ} {Q : Po} {s : SG} (hX : SC I R s) (hS : SI s) {p1 p2 p3 : Int32} (hq : HC I R J Q (qT_meets s p1 p2 p3)) : Cc G mX10_meets (d + 900) 8 48 [rf G 0, .int p1, .int p2, .int p3] 103 I R J Q := by
  obtain ⟨c, l, b, hXx⟩ := hX
  exact c_X10_meets (d := d + 840) hXx.1 (HC.q hXx (fun k e => by have q := qk_meets (s := s) (p1 := p1) (p2 := p2) (p3 := p3) k e; omega) hq)
theorem tM_meets {G : Gx} {d : Nat} {I : FI} {R : FR} {J : FJ} {Q : Po} {s : SG} (hX : SM I R s) (hS : SI s) {p1 p2 p3 : Int32} (hq : HR I R J Q 2 (qT_meets s p1 p2 p3)) : Cc G mX11_meets (d + 900) 0 0 [rf G 69, .int p1, .int p2, .int p3] 103 I R J Q := by
  exact c_X11_meets (d := d + 840) hX.1 (HR.q hX (fun k e => by have q := qk_meets (s := s) (p1 := p1) (p2 := p2) (p3 := p3) k e; omega) hq)
def qO_from (s : SG) (p1 : Int32) : Oc := (ckW p1 0 7 (.inl (fromF (cHat s.K) p1 (cH s.K))))
def qT_from (s : SG) (p1 : Int32) : Tr := (qO_from s p1, aftO (qO_from s p1) s)
theorem qk_from {s : SG} {p1 : Int32} : ∀ k, (qT_from s p1).1 = .inr k → k = 1 := (ck1W ck1I)
theorem tC_from {G : Gx} {d : Nat} {I : FI} {R : FR} {J : FJ} {Q : Po} {s : SG} (hX : SC I R s) (hS : SI s) {p1 : Int32} (hq : HC I R J Q (qT_from s p1)) : Cc G mX10_from (d + 900) 8 48 [rf G 0, .int p1] 103 I R J Q := by
  obtain ⟨c, l, b, hXx⟩ := hX
  exact c_X10_from (d := d + 840) hXx.1 (HC.q hXx (fun k e => by have q := qk_from (s := s) (p1 := p1) k e; omega) hq)
theorem tM_from {G : Gx} {d : Nat} {I : FI} {R : FR} {J : FJ} {Q : Po} {s : SG} (hX : SM I R s) (hS : SI s) {p1 : Int32} (hq : HR I R J Q 1 (qT_from s p1)) : Cc G mX11_from (d + 900) 0 0 [rf G 69, .int p1] 103 I R J Q := by
  exact c_X11_from (d := d + 840) hX.1 (HR.q hX (fun k e => by have q := qk_from (s := s) (p1 := p1) k e; omega) hq)
def qO_row (s : SG) (p1 : Int32) : Oc := (ckN p1 (cM s.K) (.inl (rwF (cHr s.K) 6 ((1 : Int32) <<< (nI p1.toNatClampNeg &&& 31)) (cHr s.K p1.toNatClampNeg) 0)))
def qT_row (s : SG) (p1 : Int32) : Tr := (qO_row s p1, aftO (qO_row s p1) s)
theorem qk_row {s : SG} {p1 : Int32} : ∀ k, (qT_row s p1).1 = .inr k → k = 0 := (ck0N ck0I)
theorem tC_row {G : Gx} {d : Nat} {I : FI} {R : FR} {J : FJ} {Q : Po} {s : SG} (hX : SC I R s) (hS : SI s) {p1 : Int32} (hq : HC I R J Q (qT_row s p1)) : Cc G mX10_row (d + 900) 8 48 [rf G 0, .int p1] 103 I R J Q := by
  obtain ⟨c, l, b, hXx⟩ := hX
  exact c_X10_row (d := d + 840) hXx.1 (HC.q hXx (fun k e => by have q := qk_row (s := s) (p1 := p1) k e; omega) hq)
theorem tM_row {G : Gx} {d : Nat} {I : FI} {R : FR} {J : FJ} {Q : Po} {s : SG} (hX : SM I R s) (hS : SI s) {p1 : Int32} (hq : HR I R J Q 1 (qT_row s p1)) : Cc G mX11_row (d + 900) 0 0 [rf G 69, .int p1] 103 I R J Q := by
  exact c_X11_row (d := d + 840) hX.1 (HR.q hX (fun k e => by have q := qk_row (s := s) (p1 := p1) k e; omega) hq)
def qO_best (s : SG) (p1 : Int32) : Oc := (ckW p1 0 1 (.inl (beF (bstF s.D 6) p1.toNatClampNeg)))
def qT_best (s : SG) (p1 : Int32) : Tr := (qO_best s p1, aftO (qO_best s p1) s)
theorem qk_best {s : SG} {p1 : Int32} : ∀ k, (qT_best s p1).1 = .inr k → k = 1 := (ck1W ck1I)
theorem tC_best {G : Gx} {d : Nat} {I : FI} {R : FR} {J : FJ} {Q : Po} {s : SG} (hX : SC I R s) (hS : SI s) {p1 : Int32} (hq : HC I R J Q (qT_best s p1)) : Cc G mX10_best (d + 900) 8 48 [rf G 0, .int p1] 103 I R J Q := by
  obtain ⟨c, l, b, hXx⟩ := hX
  exact c_X10_best (d := d + 840) hXx.1 (HC.q hXx (fun k e => by have q := qk_best (s := s) (p1 := p1) k e; omega) hq)
theorem tM_best {G : Gx} {d : Nat} {I : FI} {R : FR} {J : FJ} {Q : Po} {s : SG} (hX : SM I R s) (hS : SI s) {p1 : Int32} (hq : HR I R J Q 1 (qT_best s p1)) : Cc G mX11_best (d + 900) 0 0 [rf G 69, .int p1] 103 I R J Q := by
  exact c_X11_best (d := d + 840) hX.1 (HR.q hX (fun k e => by have q := qk_best (s := s) (p1 := p1) k e; omega) hq)
def qO_two (s : SG) (p1 p2 p3 : Int32) : Oc := (ckW p1 0 99 (ckW p2 0 99 (ckW p3 0 2 (.inl (twF p1 p3.toNatClampNeg)))))
def qT_two (s : SG) (p1 p2 p3 : Int32) : Tr := (qO_two s p1 p2 p3, aftO (qO_two s p1 p2 p3) s)
theorem qk_two {s : SG} {p1 p2 p3 : Int32} : ∀ k, (qT_two s p1 p2 p3).1 = .inr k → k = 1 := (ck1W (ck1W (ck1W ck1I)))
theorem tC_two {G : Gx} {d : Nat} {I : FI} {R : FR} {J : FJ} {Q : Po} {s : SG} (hX : SC I R s) (hS : SI s) {p1 p2 p3 : Int32} (hq : HC I R J Q (qT_two s p1 p2 p3)) : Cc G mX10_two (d + 900) 8 48 [rf G 0, .int p1, .int p2, .int p3] 103 I R J Q := by
  obtain ⟨c, l, b, hXx⟩ := hX
  exact c_X10_two (d := d + 840) hXx.1 (HC.q hXx (fun k e => by have q := qk_two (s := s) (p1 := p1) (p2 := p2) (p3 := p3) k e; omega) hq)
theorem tM_two {G : Gx} {d : Nat} {I : FI} {R : FR} {J : FJ} {Q : Po} {s : SG} (hX : SM I R s) (hS : SI s) {p1 p2 p3 : Int32} (hq : HR I R J Q 1 (qT_two s p1 p2 p3)) : Cc G mX11_two (d + 900) 0 0 [rf G 69, .int p1, .int p2, .int p3] 103 I R J Q := by
  exact c_X11_two (d := d + 840) hX.1 (HR.q hX (fun k e => by have q := qk_two (s := s) (p1 := p1) (p2 := p2) (p3 := p3) k e; omega) hq)
def qO_share (s : SG) (p1 p2 p3 : Int32) : Oc := (ckN p1 (cM s.K) (ckW p2 0 ((1 : Int32) <<< (nI (cM s.K) &&& 31) - 1) (ckW p3 0 9999 (.inl (shF s.D p2 p3.toNatClampNeg p1.toNatClampNeg)))))
def qT_share (s : SG) (p1 p2 p3 : Int32) : Tr := (qO_share s p1 p2 p3, aftO (qO_share s p1 p2 p3) s)
theorem qk_share {s : SG} {p1 p2 p3 : Int32} : ∀ k, (qT_share s p1 p2 p3).1 = .inr k → k < 2 := (ck2N (ck2W (ck2W ck2I)))
theorem tC_share {G : Gx} {d : Nat} {I : FI} {R : FR} {J : FJ} {Q : Po} {s : SG} (hX : SC I R s) (hS : SI s) {p1 p2 p3 : Int32} (hq : HC I R J Q (qT_share s p1 p2 p3)) : Cc G mX10_share (d + 900) 8 48 [rf G 0, .int p1, .int p2, .int p3] 103 I R J Q := by
  obtain ⟨c, l, b, hXx⟩ := hX
  exact c_X10_share (d := d + 840) hXx.1 (HC.q hXx (fun k e => by have q := qk_share (s := s) (p1 := p1) (p2 := p2) (p3 := p3) k e; omega) hq)
theorem tM_share {G : Gx} {d : Nat} {I : FI} {R : FR} {J : FJ} {Q : Po} {s : SG} (hX : SM I R s) (hS : SI s) {p1 p2 p3 : Int32} (hq : HR I R J Q 2 (qT_share s p1 p2 p3)) : Cc G mX11_share (d + 900) 0 0 [rf G 69, .int p1, .int p2, .int p3] 103 I R J Q := by
  exact c_X11_share (d := d + 840) hX.1 (HR.q hX (fun k e => by have q := qk_share (s := s) (p1 := p1) (p2 := p2) (p3 := p3) k e; omega) hq)
def qO_squall (s : SG) (p1 p2 p3 : Int32) : OcL := (ckL p1 0 16 (ckL p2 0 12 (ckL p3 0 1 (.inl (sqF p1.toNatClampNeg p2.toNatClampNeg p3)))))
def qT_squall (s : SG) (p1 p2 p3 : Int32) : OcL × SG := (qO_squall s p1 p2 p3, aftL (qO_squall s p1 p2 p3) s)
theorem qk_squall {s : SG} {p1 p2 p3 : Int32} : ∀ k, (qT_squall s p1 p2 p3).1 = .inr k → k = 1 := (ckLW (ckLW (ckLW ckLI)))
theorem tC_squall {G : Gx} {d : Nat} {I : FI} {R : FR} {J : FJ} {Q : Po} {s : SG} (hX : SC I R s) (hS : SI s) {p1 p2 p3 : Int32} (hq : HCL I R J Q (qT_squall s p1 p2 p3)) : Cc G mX10_squall (d + 900) 8 48 [rf G 0, .int p1, .int p2, .int p3] 103 I R J Q := by
  obtain ⟨c, l, b, hXx⟩ := hX
  exact c_X10_squall (d := d + 840) (HCL.q hXx (fun k e => by have q := qk_squall (s := s) (p1 := p1) (p2 := p2) (p3 := p3) k e; omega) hq)
theorem tM_squall {G : Gx} {d : Nat} {I : FI} {R : FR} {J : FJ} {Q : Po} {s : SG} (hX : SM I R s) (hS : SI s) {p1 p2 p3 : Int32} (hq : HRL I R J Q 1 (qT_squall s p1 p2 p3)) : Cc G mX11_squall (d + 900) 0 0 [rf G 69, .int p1, .int p2, .int p3] 103 I R J Q := by
  exact c_X11_squall (d := d + 840) hX.1 (HRL.q hX (fun k e => by have q := qk_squall (s := s) (p1 := p1) (p2 := p2) (p3 := p3) k e; omega) hq)
theorem SI_aftL {s : SG} (h : SI s) (o : OcL) : SI (aftL o s) := by
  cases o with
  | inl v => exact h
  | inr k => exact SI_bump h k
def qO_suits (s : SG) (p1 p2 p3 p4 : Int32) : Oc := (ckN p1 (cM s.K) (ckN p2 (cG s.K) (ckW p3 0 24 (ckW p4 0 1 (.inl (if p4 = 0 then (suF s.K s.f s.D p1.toNatClampNeg p2.toNatClampNeg p3.toNatClampNeg (cH s.K)).1 else (suF s.K s.f s.D p1.toNatClampNeg p2.toNatClampNeg p3.toNatClampNeg (cH s.K)).2))))))
def qT_suits (s : SG) (p1 p2 p3 p4 : Int32) : Tr := (qO_suits s p1 p2 p3 p4, aftO (qO_suits s p1 p2 p3 p4) s)
theorem qk_suits {s : SG} {p1 p2 p3 p4 : Int32} : ∀ k, (qT_suits s p1 p2 p3 p4).1 = .inr k → k < 2 := (ck2N (ck2N (ck2W (ck2W ck2I))))
theorem tC_suits {G : Gx} {d : Nat} {I : FI} {R : FR} {J : FJ} {Q : Po} {s : SG} (hX : SC I R s) (hS : SI s) {p1 p2 p3 p4 : Int32} (hq : HC I R J Q (qT_suits s p1 p2 p3 p4)) : Cc G mX10_suits (d + 900) 8 48 [rf G 0, .int p1, .int p2, .int p3, .int p4] 103 I R J Q := by
  obtain ⟨c, l, b, hXx⟩ := hX
  exact c_X10_suits (d := d + 840) hXx.1 (HC.q hXx (fun k e => by have q := qk_suits (s := s) (p1 := p1) (p2 := p2) (p3 := p3) (p4 := p4) k e; omega) hq)
theorem tM_suits {G : Gx} {d : Nat} {I : FI} {R : FR} {J : FJ} {Q : Po} {s : SG} (hX : SM I R s) (hS : SI s) {p1 p2 p3 p4 : Int32} (hq : HR I R J Q 2 (qT_suits s p1 p2 p3 p4)) : Cc G mX11_suits (d + 900) 0 0 [rf G 69, .int p1, .int p2, .int p3, .int p4] 103 I R J Q := by
  exact c_X11_suits (d := d + 840) hX.1 (HR.q hX (fun k e => by have q := qk_suits (s := s) (p1 := p1) (p2 := p2) (p3 := p3) (p4 := p4) k e; omega) hq)
def qO_hatted (s : SG) (p1 : Int32) : Oc := (ckN p1 (cG s.K) (.inl (oI (LO s.D (pA s.K s.f s.D p1.toNatClampNeg) (cM s.K) (cH s.K) (cM s.K) 0))))
def qT_hatted (s : SG) (p1 : Int32) : Tr := (qO_hatted s p1, aftO (qO_hatted s p1) s)
theorem qk_hatted {s : SG} {p1 : Int32} : ∀ k, (qT_hatted s p1).1 = .inr k → k = 0 := (ck0N ck0I)
theorem tC_hatted {G : Gx} {d : Nat} {I : FI} {R : FR} {J : FJ} {Q : Po} {s : SG} (hX : SC I R s) (hS : SI s) {p1 : Int32} (hq : HC I R J Q (qT_hatted s p1)) : Cc G mX10_hatted (d + 900) 8 48 [rf G 0, .int p1] 103 I R J Q := by
  obtain ⟨c, l, b, hXx⟩ := hX
  exact c_X10_hatted (d := d + 840) hXx.1 (HC.q hXx (fun k e => by have q := qk_hatted (s := s) (p1 := p1) k e; omega) hq)
theorem tM_hatted {G : Gx} {d : Nat} {I : FI} {R : FR} {J : FJ} {Q : Po} {s : SG} (hX : SM I R s) (hS : SI s) {p1 : Int32} (hq : HR I R J Q 1 (qT_hatted s p1)) : Cc G mX11_hatted (d + 900) 0 0 [rf G 69, .int p1] 103 I R J Q := by
  exact c_X11_hatted (d := d + 840) hX.1 (HR.q hX (fun k e => by have q := qk_hatted (s := s) (p1 := p1) k e; omega) hq)
def qO_given (s : SG) (p1 p2 : Int32) : Oc := (ckN p1 (cG s.K) (ckN p2 (cM s.K) (.inl (oI (givO s.D (pA s.K s.f s.D p1.toNatClampNeg) (cM s.K) (cH s.K) p2.toNatClampNeg)))))
def qT_given (s : SG) (p1 p2 : Int32) : Tr := (qO_given s p1 p2, aftO (qO_given s p1 p2) s)
theorem qk_given {s : SG} {p1 p2 : Int32} : ∀ k, (qT_given s p1 p2).1 = .inr k → k = 0 := (ck0N (ck0N ck0I))
theorem tC_given {G : Gx} {d : Nat} {I : FI} {R : FR} {J : FJ} {Q : Po} {s : SG} (hX : SC I R s) (hS : SI s) {p1 p2 : Int32} (hq : HC I R J Q (qT_given s p1 p2)) : Cc G mX10_given (d + 900) 8 48 [rf G 0, .int p1, .int p2] 103 I R J Q := by
  obtain ⟨c, l, b, hXx⟩ := hX
  exact c_X10_given (d := d + 840) hXx.1 (HC.q hXx (fun k e => by have q := qk_given (s := s) (p1 := p1) (p2 := p2) k e; omega) hq)
theorem tM_given {G : Gx} {d : Nat} {I : FI} {R : FR} {J : FJ} {Q : Po} {s : SG} (hX : SM I R s) (hS : SI s) {p1 p2 : Int32} (hq : HR I R J Q 1 (qT_given s p1 p2)) : Cc G mX11_given (d + 900) 0 0 [rf G 69, .int p1, .int p2] 103 I R J Q := by
  exact c_X11_given (d := d + 840) hX.1 (HR.q hX (fun k e => by have q := qk_given (s := s) (p1 := p1) (p2 := p2) k e; omega) hq)
def qO_fits (s : SG) (p1 p2 : Int32) : Oc := (ckN p1 (cM s.K) (ckW p2 0 1 (.inl (if p2 = 0 then nI (cnT s.K s.f s.D s.bk p1.toNatClampNeg (cH s.K * cG s.K)) else fsT s.K s.f s.D s.bk p1.toNatClampNeg (cH s.K * cG s.K)))))
def qT_fits (s : SG) (p1 p2 : Int32) : Tr := (qO_fits s p1 p2, aftO (qO_fits s p1 p2) s)
theorem qk_fits {s : SG} {p1 p2 : Int32} : ∀ k, (qT_fits s p1 p2).1 = .inr k → k < 2 := (ck2N (ck2W ck2I))
theorem tC_fits {G : Gx} {d : Nat} {I : FI} {R : FR} {J : FJ} {Q : Po} {s : SG} (hX : SC I R s) (hS : SI s) {p1 p2 : Int32} (hq : HC I R J Q (qT_fits s p1 p2)) : Cc G mX10_fits (d + 900) 8 48 [rf G 0, .int p1, .int p2] 103 I R J Q := by
  obtain ⟨c, l, b, hXx⟩ := hX
  exact c_X10_fits (d := d + 840) hXx.1 hXx.2.2.1 (HC.q hXx (fun k e => by have q := qk_fits (s := s) (p1 := p1) (p2 := p2) k e; omega) hq)
theorem tM_fits {G : Gx} {d : Nat} {I : FI} {R : FR} {J : FJ} {Q : Po} {s : SG} (hX : SM I R s) (hS : SI s) {p1 p2 : Int32} (hq : HR I R J Q 2 (qT_fits s p1 p2)) : Cc G mX11_fits (d + 900) 0 0 [rf G 69, .int p1, .int p2] 103 I R J Q := by
  exact c_X11_fits (d := d + 840) hX.1 hX.2.2.1 hS.2.2.2.2.2.1 (HR.q hX (fun k e => by have q := qk_fits (s := s) (p1 := p1) (p2 := p2) k e; omega) hq)
def qO_look (s : SG) (p1 p2 : Int32) : Oc := (ckN p1 (cM s.K) (ckW p2 0 1 (.inl (if p2 = 0 then (loT s.K s.f s.D s.bk p1.toNatClampNeg 24).1 else (loT s.K s.f s.D s.bk p1.toNatClampNeg 24).2))))
def qT_look (s : SG) (p1 p2 : Int32) : Tr := (qO_look s p1 p2, aftO (qO_look s p1 p2) s)
theorem qk_look {s : SG} {p1 p2 : Int32} : ∀ k, (qT_look s p1 p2).1 = .inr k → k < 2 := (ck2N (ck2W ck2I))
theorem tC_look {G : Gx} {d : Nat} {I : FI} {R : FR} {J : FJ} {Q : Po} {s : SG} (hX : SC I R s) (hS : SI s) {p1 p2 : Int32} (hq : HC I R J Q (qT_look s p1 p2)) : Cc G mX10_look (d + 900) 8 48 [rf G 0, .int p1, .int p2] 103 I R J Q := by
  obtain ⟨c, l, b, hXx⟩ := hX
  exact c_X10_look (d := d + 840) hXx.1 hXx.2.2.1 (HC.q hXx (fun k e => by have q := qk_look (s := s) (p1 := p1) (p2 := p2) k e; omega) hq)
theorem tM_look {G : Gx} {d : Nat} {I : FI} {R : FR} {J : FJ} {Q : Po} {s : SG} (hX : SM I R s) (hS : SI s) {p1 p2 : Int32} (hq : HR I R J Q 2 (qT_look s p1 p2)) : Cc G mX11_look (d + 900) 0 0 [rf G 69, .int p1, .int p2] 103 I R J Q := by
  exact c_X11_look (d := d + 840) hX.1 hX.2.2.1 hS.2.2.2.2.2.1 (HR.q hX (fun k e => by have q := qk_look (s := s) (p1 := p1) (p2 := p2) k e; omega) hq)
def qO_fleet (s : SG) (p1 p2 : Int32) : Oc := (ckN p1 (cG s.K) (ckW p2 0 99 (.inl (flF s.K s.f s.D p1.toNatClampNeg p2.toNatClampNeg (2 ^ cM s.K)))))
def qT_fleet (s : SG) (p1 p2 : Int32) : Tr := (qO_fleet s p1 p2, aftO (qO_fleet s p1 p2) s)
theorem qk_fleet {s : SG} {p1 p2 : Int32} : ∀ k, (qT_fleet s p1 p2).1 = .inr k → k < 2 := (ck2N (ck2W ck2I))
theorem tC_fleet {G : Gx} {d : Nat} {I : FI} {R : FR} {J : FJ} {Q : Po} {s : SG} (hX : SC I R s) (hS : SI s) {p1 p2 : Int32} (hq : HC I R J Q (qT_fleet s p1 p2)) : Cc G mX10_fleet (d + 900) 8 48 [rf G 0, .int p1, .int p2] 103 I R J Q := by
  obtain ⟨c, l, b, hXx⟩ := hX
  exact c_X10_fleet (d := d + 840) hXx.1 (HC.q hXx (fun k e => by have q := qk_fleet (s := s) (p1 := p1) (p2 := p2) k e; omega) hq)
theorem tM_fleet {G : Gx} {d : Nat} {I : FI} {R : FR} {J : FJ} {Q : Po} {s : SG} (hX : SM I R s) (hS : SI s) {p1 p2 : Int32} (hq : HR I R J Q 2 (qT_fleet s p1 p2)) : Cc G mX11_fleet (d + 900) 0 0 [rf G 69, .int p1, .int p2] 103 I R J Q := by
  exact c_X11_fleet (d := d + 840) hX.1 (HR.q hX (fun k e => by have q := qk_fleet (s := s) (p1 := p1) (p2 := p2) k e; omega) hq)
theorem qk_coast {s : SG} {x : Int32} : ∀ k, (coastT s x).1 = .inr k → k = 1 := fun k e => by
  unfold coastT at e
  split at e
  · split at e <;> cases e
  · cases e; rfl
theorem qk_law {s : SG} {x : Int32} : ∀ k, (lawT s x).1 = .inr k → k = 1 := fun k e => by
  unfold lawT at e
  split at e
  · split at e <;> cases e
  · cases e; rfl
theorem qk_work {s : SG} {x : Int32} : ∀ k, (workT s x).1 = .inr k → k = 1 := fun k e => by
  unfold workT at e
  split at e
  · split at e
    · cases e
    · split at e <;> cases e
  · cases e; rfl
theorem qk_book {s : SG} {x : Int32} : ∀ k, (bookT s x).1 = .inr k → k = 1 := fun k e => by
  unfold bookT at e
  split at e
  · split at e <;> cases e
  · cases e; rfl
