set_option maxHeartbeats 8000000 in
theorem w_X11_book {G : Gx} {d : Nat} {I : FI} {R : FR} {J : FJ} {Q : Po} {k : Int32} (hRM : ∀ k, R 69 k = refM k) {t : Nat → Nat} {z : Nat} (hT : TxM I t z) (hk : ∀ n bk I' a' k', bkF t z = .inr (n, bk) → (∀ h, h < 24 → I' 92 h = oI (bk h)) → n ≤ 8 → (∀ a, a ≠ 92 → I' a = I a) → a' ≤ z → V G mX11_book (d + 10) 0 0 0 0 183 [(2, .int (nI n)), (0, rf G 69)] [] 103 (lx I' a' (-1) k') R J Q) (hb : ∀ kd q y I' a', bkF t z = .inl (kd, q) → 0 < kd → kd ≤ 3 → q ≤ z → (∀ a, a ≠ 92 → I' a = I a) → a' ≤ z → V G mX11_book (d + 10) 0 0 0 0 183 [(2, .int y), (0, rf G 69)] [] 103 (lx I' a' (nI q) (nI kd)) R J Q) : ∀ g n bk a I1, g + n = 10 → n ≤ 8 → a ≤ z → (∀ h, h < 24 → I1 92 h = oI (bk h)) → (∀ k v, bk k = some v → k < 24 ∧ v ≤ 99) → (∀ a, a ≠ 92 → I1 a = I a) → bkF t z = bkL t z g n bk (sk t z a) → V G mX11_book (d + 10) 0 0 0 0 67 [(2, .int (nI n)), (0, rf G 69)] [] 103 (lx I1 a (-1) k) R J Q := by
  have h6 := hT.2.1
  intro g
  induction g with
  | zero => intro n bk a I1 h1 h2; omega
  | succ g ih =>
    intro n bk a I1 hgn hn ha hN hv hx eq
    have hT1 : TxM I1 t z := hT.fr (by rw [hx 69 (by decide)]) (hx 71 (by decide))
    obtain ⟨hs1, hs2, hs3⟩ := sk_z (t := t) ha
    rw [bkL] at eq
    obtain ⟨p, ep⟩ : ∃ p, p = sk t z a := ⟨_, rfl⟩
    rw [← ep] at eq hs1 hs2
    have esk : sk t z p = p := by rw [ep]; exact sk_sk ha
    have nbp : ¬ nI p = -1 := nI_ne (by omega)
    by_cases cz : z ≤ p
    · refine V_aload_n 68 1 rfl _ rfl rfl dX11_book_67 rfl ?_
      refine V_callV (K' := 0) (S' := 0) 71 69 11 0 [] mkX11_fine lkX11_152 (by decide) rfl rfl (by decide) rfl (Nat.le_of_ble_eq_true rfl) (Nat.le_of_ble_eq_true rfl) (Nat.le_of_ble_eq_true rfl) (Nat.le_of_ble_eq_true rfl) rfl rfl dX11_book_68 rfl (c_X11_fine (fun _ => ?_) (fun e => absurd rfl e))
      refine Kq_i (k' := 0) (sl' := 0) rfl rfl ?_
      refine V_if_eq 183 74 rfl dX11_book_71 rfl (fun c71 => absurd c71 (by decide)) (fun c71 => ?_)
      refine V_aload_n 75 1 rfl _ rfl rfl dX11_book_74 rfl ?_
      refine V_callV (K' := 0) (S' := 0) 78 69 11 0 [] mkX11_isMore lkX11_224 (by decide) rfl rfl (by decide) rfl (Nat.le_of_ble_eq_true rfl) (Nat.le_of_ble_eq_true rfl) (Nat.le_of_ble_eq_true rfl) (Nat.le_of_ble_eq_true rfl) rfl rfl dX11_book_75 rfl (c_X11_isMore hRM hT1 ha (fun q => absurd (show sk t z a < z from q) (by omega)) (fun q => ?_))
      rw [← ep]
      refine Kq_i (k' := 0) (sl' := 0) rfl rfl ?_
      refine V_if_eq 183 81 rfl dX11_book_78 rfl (fun c78 => ?_) (fun c78 => absurd c78 (by decide))
      exact V_lv [0, 1] rfl (hk n bk I1 p k (eq.trans (if_pos cz)) hN hn hx hs2)
    · rw [if_neg cz] at eq
      refine V_aload_n 68 1 rfl _ rfl rfl dX11_book_67 rfl ?_
      refine V_callV (K' := 0) (S' := 0) 71 69 11 0 [] mkX11_fine lkX11_152 (by decide) rfl rfl (by decide) rfl (Nat.le_of_ble_eq_true rfl) (Nat.le_of_ble_eq_true rfl) (Nat.le_of_ble_eq_true rfl) (Nat.le_of_ble_eq_true rfl) rfl rfl dX11_book_68 rfl (c_X11_fine (fun _ => ?_) (fun e => absurd rfl e))
      refine Kq_i (k' := 0) (sl' := 0) rfl rfl ?_
      refine V_if_eq 183 74 rfl dX11_book_71 rfl (fun c71 => absurd c71 (by decide)) (fun c71 => ?_)
      refine V_aload_n 75 1 rfl _ rfl rfl dX11_book_74 rfl ?_
      refine V_callV (K' := 0) (S' := 0) 78 69 11 0 [] mkX11_isMore lkX11_224 (by decide) rfl rfl (by decide) rfl (Nat.le_of_ble_eq_true rfl) (Nat.le_of_ble_eq_true rfl) (Nat.le_of_ble_eq_true rfl) (Nat.le_of_ble_eq_true rfl) rfl rfl dX11_book_75 rfl (c_X11_isMore hRM hT1 ha (fun q => ?_) (fun q => absurd (show p < z by omega) (fun q2 => q (by rw [← ep]; exact q2))))
      rw [← ep]
      refine Kq_i (k' := 0) (sl' := 0) rfl rfl ?_
      refine V_if_eq 183 81 rfl dX11_book_78 rfl (fun c78 => absurd c78 (by decide)) (fun c78 => ?_)
      refine V_aload_n 82 1 rfl _ rfl rfl dX11_book_81 rfl ?_
      refine V_callV (K' := 0) (S' := 0) 85 69 11 0 [] mkX11_here lkX11_135 (by decide) rfl rfl (by decide) rfl (Nat.le_of_ble_eq_true rfl) (Nat.le_of_ble_eq_true rfl) (Nat.le_of_ble_eq_true rfl) (Nat.le_of_ble_eq_true rfl) rfl rfl dX11_book_82 rfl (c_X11_here hRM hT1 hs2 ?_)
      rw [esk]
      refine Kq_i (k' := 0) (sl' := 0) rfl rfl ?_
      refine V_pop 86 rfl dX11_book_85 rfl ?_
      refine V_aload_n 87 1 rfl _ rfl rfl dX11_book_86 rfl ?_
      refine V_getI 90 69 11 4 (nI p) rfl flX11_129 rfl rfl rfl (by decide) dX11_book_87 rfl ?_
      refine V_istore_n 91 [(3, .int (nI p)), (2, .int (nI n)), (0, rf G 69)] (by decide) rfl rfl dX11_book_90 rfl ?_
      refine V_aload_n 92 2 rfl _ rfl rfl dX11_book_91 rfl ?_
      refine V_iconst 93 (0) rfl dX11_book_92 rfl ?_
      refine V_bipush 95 (23) rfl dX11_book_93 rfl ?_
      refine V_callV (K' := 0) (S' := 0) 98 69 11 2 [.int 0, .int 23] mkX11_readNumber lkX11_212 (by decide) rfl rfl (by decide) rfl (Nat.le_of_ble_eq_true rfl) (Nat.le_of_ble_eq_true rfl) (Nat.le_of_ble_eq_true rfl) (Nat.le_of_ble_eq_true rfl) rfl rfl dX11_book_95 rfl (c_X11_readNumber (lo := 0) (cnt := 24) hRM hT1 (by decide) (by omega) (hh_lit 23 (by decide)) hs2 (fun e => absurd rfl e) (fun v95 _ e95 => ?_) (fun k95 a95 ha95 _ e95 => ?_))
      · refine Kq_i (k' := 0) (sl' := 0) rfl rfl ?_
        rw [esk] at e95 ⊢
        obtain ⟨-, -, lo95, hi95, -, -, lt95, hz95⟩ := pNum_ok e95
        refine V_istore 100 [(4, .int (nI v95)), (3, .int (nI p)), (2, .int (nI n)), (0, rf G 69)] (by decide) rfl dX11_book_98 rfl ?_
        refine V_aload_n 101 3 rfl _ rfl rfl dX11_book_100 rfl ?_
        refine V_callV (K' := 0) (S' := 0) 104 69 11 0 [] mkX11_fine lkX11_152 (by decide) rfl rfl (by decide) rfl (Nat.le_of_ble_eq_true rfl) (Nat.le_of_ble_eq_true rfl) (Nat.le_of_ble_eq_true rfl) (Nat.le_of_ble_eq_true rfl) rfl rfl dX11_book_101 rfl (c_X11_fine (fun _ => ?_) (fun e => absurd rfl e))
        refine Kq_i (k' := 0) (sl' := 0) rfl rfl ?_
        refine V_if_eq 124 107 rfl dX11_book_104 rfl (fun c104 => absurd c104 (by decide)) (fun c104 => ?_)
        cases eb : bk v95 with
        | some u =>
          have u99 := (hv v95 u eb).2
          refine V_aload_n 108 3 rfl _ rfl rfl dX11_book_107 rfl ?_
          refine V_getR 111 69 11 44 92 (hRM 44) flX11_83 rfl rfl rfl (by decide) dX11_book_108 rfl ?_
          refine V_iload 113 0 rfl dX11_book_111 rfl ?_
          refine V_ialdN 114 92 24 v95 (nI u) (show lx _ _ _ _ 92 _ = _ from by rw [lx_n (by decide), hN v95 hi95, eb]; rfl) (by omega) (by decide) rfl (by decide) dX11_book_113 rfl ?_
          refine V_iconst 115 (-1) rfl dX11_book_114 rfl ?_
          refine V_icmp_eq 124 118 rfl dX11_book_115 rfl (fun c115 => absurd c115 (nI_ne (by omega))) (fun c115 => ?_)
          refine V_aload_n 119 3 rfl _ rfl rfl dX11_book_118 rfl ?_
          refine V_iconst 120 (2) rfl dX11_book_119 rfl ?_
          refine V_iload_n 121 1 rfl rfl dX11_book_120 rfl ?_
          refine V_callV (K' := 0) (S' := 0) 124 69 11 2 [.int 2, .int (nI p)] mkX11_wrong lkX11_159 (by decide) rfl rfl (by decide) rfl (Nat.le_of_ble_eq_true rfl) (Nat.le_of_ble_eq_true rfl) (Nat.le_of_ble_eq_true rfl) (Nat.le_of_ble_eq_true rfl) rfl rfl dX11_book_121 rfl (c_X11_wrong (kd := 2) (q := p) (fun e => absurd rfl e) (fun _ => ?_))
          refine Kq_v (k' := 0) (sl' := 0) rfl rfl ?_
          refine V_aload_n 125 3 rfl _ rfl rfl dX11_book_124 rfl ?_
          refine V_callV (K' := 0) (S' := 0) 128 69 11 0 [] mkX11_fine lkX11_152 (by decide) rfl rfl (by decide) rfl (Nat.le_of_ble_eq_true rfl) (Nat.le_of_ble_eq_true rfl) (Nat.le_of_ble_eq_true rfl) (Nat.le_of_ble_eq_true rfl) rfl rfl dX11_book_125 rfl (c_X11_fine (fun e => absurd e nbp) (fun _ => ?_))
          refine Kq_i (k' := 0) (sl' := 0) rfl rfl ?_
          refine V_if_eq 143 131 rfl dX11_book_128 rfl (fun c128 => ?_) (fun c128 => absurd c128 (by decide))
          refine V_aload_n 144 3 rfl _ rfl rfl dX11_book_143 rfl ?_
          refine V_iconst 145 (0) rfl dX11_book_144 rfl ?_
          refine V_bipush 147 (99) rfl dX11_book_145 rfl ?_
          refine V_callV (K' := 0) (S' := 0) 150 69 11 2 [.int 0, .int 99] mkX11_readNumber lkX11_212 (by decide) rfl rfl (by decide) rfl (Nat.le_of_ble_eq_true rfl) (Nat.le_of_ble_eq_true rfl) (Nat.le_of_ble_eq_true rfl) (Nat.le_of_ble_eq_true rfl) rfl rfl dX11_book_147 rfl (c_X11_readNumber (lo := 0) (cnt := 100) hRM hT1 (by decide) (by omega) (hh_lit 99 (by decide)) (enF_z hs2).2.1 (fun _ => ?_) (fun _ e _ => absurd e nbp) (fun _ _ _ e _ => absurd e nbp))
          refine Kq_i (k' := 0) (sl' := 0) rfl rfl ?_
          refine V_istore 152 [(5, .int 0), (4, .int (nI v95)), (3, .int (nI p)), (2, .int (nI n)), (0, rf G 69)] (by decide) rfl dX11_book_150 rfl ?_
          refine V_aload_n 153 4 rfl _ rfl rfl dX11_book_152 rfl ?_
          refine V_bipush 155 (59) rfl dX11_book_153 rfl ?_
          refine V_callV (K' := 0) (S' := 0) 158 69 11 1 [.int 59] mkX11_sign lkX11_242 (by decide) rfl rfl (by decide) rfl (Nat.le_of_ble_eq_true rfl) (Nat.le_of_ble_eq_true rfl) (Nat.le_of_ble_eq_true rfl) (Nat.le_of_ble_eq_true rfl) rfl rfl dX11_book_155 rfl (c_X11_sign (c := 59) hRM hT1 (by decide) (by decide) (enF_z hs2).2.1 (fun _ => ?_) (fun e _ _ => absurd e nbp) (fun e _ => absurd e nbp))
          refine Kq_v (k' := 0) (sl' := 0) rfl rfl ?_
          refine V_aload_n 159 4 rfl _ rfl rfl dX11_book_158 rfl ?_
          refine V_callV (K' := 0) (S' := 0) 162 69 11 0 [] mkX11_fine lkX11_152 (by decide) rfl rfl (by decide) rfl (Nat.le_of_ble_eq_true rfl) (Nat.le_of_ble_eq_true rfl) (Nat.le_of_ble_eq_true rfl) (Nat.le_of_ble_eq_true rfl) rfl rfl dX11_book_159 rfl (c_X11_fine (fun e => absurd e nbp) (fun _ => ?_))
          refine Kq_i (k' := 0) (sl' := 0) rfl rfl ?_
          refine V_if_ne 168 165 rfl dX11_book_162 rfl (fun c162 => absurd c162 (by decide)) (fun c162 => ?_)
          refine V_goto 183 rfl dX11_book_165 ?_
          exact V_lv [3, 4] rfl (hb _ _ _ I1 _ (eq.trans (bd_no ((bd_ok e95).trans (if_pos (by rw [eb]; intro q; cases q))))) (by decide) (by decide) hs2 hx (enF_z hs2).2.1)
        | none =>
          by_cases c8 : n < 8
          · refine V_aload_n 108 3 rfl _ rfl rfl dX11_book_107 rfl ?_
            refine V_getR 111 69 11 44 92 (hRM 44) flX11_83 rfl rfl rfl (by decide) dX11_book_108 rfl ?_
            refine V_iload 113 0 rfl dX11_book_111 rfl ?_
            refine V_ialdN 114 92 24 v95 (-1) (show lx _ _ _ _ 92 _ = _ from by rw [lx_n (by decide), hN v95 hi95, eb]; rfl) (by omega) (by decide) rfl (by decide) dX11_book_113 rfl ?_
            refine V_iconst 115 (-1) rfl dX11_book_114 rfl ?_
            refine V_icmp_eq 124 118 rfl dX11_book_115 rfl (fun c115 => ?_) (fun c115 => absurd rfl c115)
            refine V_aload_n 125 3 rfl _ rfl rfl dX11_book_124 rfl ?_
            refine V_callV (K' := 0) (S' := 0) 128 69 11 0 [] mkX11_fine lkX11_152 (by decide) rfl rfl (by decide) rfl (Nat.le_of_ble_eq_true rfl) (Nat.le_of_ble_eq_true rfl) (Nat.le_of_ble_eq_true rfl) (Nat.le_of_ble_eq_true rfl) rfl rfl dX11_book_125 rfl (c_X11_fine (fun _ => ?_) (fun e => absurd rfl e))
            refine Kq_i (k' := 0) (sl' := 0) rfl rfl ?_
            refine V_if_eq 143 131 rfl dX11_book_128 rfl (fun c128 => absurd c128 (by decide)) (fun c128 => ?_)
            refine V_iload_n 132 2 rfl rfl dX11_book_131 rfl ?_
            refine V_bipush 134 (8) rfl dX11_book_132 rfl ?_
            refine V_icmp_ne 143 137 rfl dX11_book_134 rfl (fun c134 => ?_) (fun c134 => absurd ((nI_eq (b := 8) (by omega) (by decide)).mp c134) (by omega))
            refine V_aload_n 144 3 rfl _ rfl rfl dX11_book_143 rfl ?_
            refine V_iconst 145 (0) rfl dX11_book_144 rfl ?_
            refine V_bipush 147 (99) rfl dX11_book_145 rfl ?_
            refine V_callV (K' := 0) (S' := 0) 150 69 11 2 [.int 0, .int 99] mkX11_readNumber lkX11_212 (by decide) rfl rfl (by decide) rfl (Nat.le_of_ble_eq_true rfl) (Nat.le_of_ble_eq_true rfl) (Nat.le_of_ble_eq_true rfl) (Nat.le_of_ble_eq_true rfl) rfl rfl dX11_book_147 rfl (c_X11_readNumber (lo := 0) (cnt := 100) hRM hT1 (by decide) (by omega) (hh_lit 99 (by decide)) (enF_z hs2).2.1 (fun e => absurd rfl e) (fun v147 _ e147 => ?_) (fun k147 a147 ha147 _ e147 => ?_))
            · refine Kq_i (k' := 0) (sl' := 0) rfl rfl ?_
              obtain ⟨-, -, lo147, hi147, -, -, lt147, hz147⟩ := pNum_ok e147
              refine V_istore 152 [(5, .int (nI v147)), (4, .int (nI v95)), (3, .int (nI p)), (2, .int (nI n)), (0, rf G 69)] (by decide) rfl dX11_book_150 rfl ?_
              refine V_aload_n 153 4 rfl _ rfl rfl dX11_book_152 rfl ?_
              refine V_bipush 155 (59) rfl dX11_book_153 rfl ?_
              refine V_callV (K' := 0) (S' := 0) 158 69 11 1 [.int 59] mkX11_sign lkX11_242 (by decide) rfl rfl (by decide) rfl (Nat.le_of_ble_eq_true rfl) (Nat.le_of_ble_eq_true rfl) (Nat.le_of_ble_eq_true rfl) (Nat.le_of_ble_eq_true rfl) rfl rfl dX11_book_155 rfl (c_X11_sign (c := 59) hRM hT1 (by decide) (by decide) (enF_z (sk_z (enF_z hs2).2.1).2.1).2.1 (fun e => absurd rfl e) (fun _ z155 s155 => ?_) (fun _ e155 => ?_))
              · refine Kq_v (k' := 0) (sl' := 0) rfl rfl ?_
                have e155 : pSig t z 59 (sk t z (enF t z (sk t z (enF t z p)))) = .inr (sk t z (sk t z (enF t z (sk t z (enF t z p))) + 1)) := sig_ok z155 s155 (by decide) (by decide)
                refine V_aload_n 159 4 rfl _ rfl rfl dX11_book_158 rfl ?_
                refine V_callV (K' := 0) (S' := 0) 162 69 11 0 [] mkX11_fine lkX11_152 (by decide) rfl rfl (by decide) rfl (Nat.le_of_ble_eq_true rfl) (Nat.le_of_ble_eq_true rfl) (Nat.le_of_ble_eq_true rfl) (Nat.le_of_ble_eq_true rfl) rfl rfl dX11_book_159 rfl (c_X11_fine (fun _ => ?_) (fun e => absurd rfl e))
                refine Kq_i (k' := 0) (sl' := 0) rfl rfl ?_
                refine V_if_ne 168 165 rfl dX11_book_162 rfl (fun c162 => ?_) (fun c162 => absurd c162 (by decide))
                refine V_aload_n 169 4 rfl _ rfl rfl dX11_book_168 rfl ?_
                refine V_getR 172 69 11 44 92 (hRM 44) flX11_83 rfl rfl rfl (by decide) dX11_book_169 rfl ?_
                refine V_iload 174 1 rfl dX11_book_172 rfl ?_
                refine V_iload 176 0 rfl dX11_book_174 rfl ?_
                refine V_iastN 177 92 24 v95 (by omega) (by decide) rfl (by decide) dX11_book_176 rfl ?_
                rw [lx_up (fun h => absurd h (by decide))]
                refine V_iinc 180 3 rfl (nI (n + 1)) [(2, .int (nI (n + 1))), (5, .int (nI v147)), (4, .int (nI v95)), (3, .int (nI p)), (0, rf G 69)] (nI_1 _) (by decide) rfl dX11_book_177 rfl ?_
                refine V_goto 67 rfl dX11_book_180 ?_
                have eE : bkE t z bk n p = .inr ((v95, v147), sk t z (sk t z (enF t z (sk t z (enF t z p))) + 1)) := (bd_ok e95).trans ((if_neg (fun q => q eb)).trans ((if_neg (by omega)).trans ((bd_ok e147).trans (bd_ok e155))))
                refine V_lv [0, 4] rfl (ih (n + 1) (upB bk v95 v147) _ _ (by omega) (by omega) (Nat.succ_le_of_lt z155) (fun h hh => ?_) (fun q v e => ?_) (fun a q => by rw [up2_n _ _ _ q]; exact hx a q) (eq.trans (bd_ok eE)))
                · rw [up2_s]
                  show upd (I1 92) v95 (nI v147) h = oI (if h = v95 then some v147 else bk h)
                  by_cases c : h = v95
                  · subst c; rw [upd_s, if_pos rfl]; rfl
                  · rw [upd_n c, if_neg c]; exact hN h hh
                · replace e : (if q = v95 then some v147 else bk q) = some v := e
                  by_cases c : q = v95
                  · rw [if_pos c] at e; cases e; exact ⟨by omega, by omega⟩
                  · rw [if_neg c] at e; exact hv q v e
              · refine Kq_v (k' := 0) (sl' := 0) rfl rfl ?_
                have nb155 : ¬ nI (sk t z (enF t z (sk t z (enF t z p)))) = -1 := nI_ne (by first | omega | exact Nat.lt_of_le_of_lt (sk_z (t := t) (enF_z (sk_z (enF_z hs2).2.1).2.1).2.1).2.1 (by omega))
                refine V_aload_n 159 4 rfl _ rfl rfl dX11_book_158 rfl ?_
                refine V_callV (K' := 0) (S' := 0) 162 69 11 0 [] mkX11_fine lkX11_152 (by decide) rfl rfl (by decide) rfl (Nat.le_of_ble_eq_true rfl) (Nat.le_of_ble_eq_true rfl) (Nat.le_of_ble_eq_true rfl) (Nat.le_of_ble_eq_true rfl) rfl rfl dX11_book_159 rfl (c_X11_fine (fun e => absurd e nb155) (fun _ => ?_))
                refine Kq_i (k' := 0) (sl' := 0) rfl rfl ?_
                refine V_if_ne 168 165 rfl dX11_book_162 rfl (fun c162 => absurd c162 (by decide)) (fun c162 => ?_)
                refine V_goto 183 rfl dX11_book_165 ?_
                exact V_lv [3, 4] rfl (hb _ _ _ I1 _ (eq.trans (bd_no ((bd_ok e95).trans ((if_neg (fun q => q eb)).trans ((if_neg (by omega)).trans ((bd_ok e147).trans (bd_no e155))))))) (by decide) (by decide) (by first | omega | exact (sk_z (t := t) (by first | exact (enF_z hs2).2.1 | exact (enF_z (sk_z (enF_z hs2).2.1).2.1).2.1)).2.1) hx (sk_z (enF_z (sk_z (enF_z hs2).2.1).2.1).2.1).2.1)
            · refine Kq_i (k' := 0) (sl' := 0) rfl rfl ?_
              have kk147 := pNum_k e147
              have nb147 : ¬ nI (sk t z (enF t z p)) = -1 := nI_ne (by first | omega | exact Nat.lt_of_le_of_lt (sk_z (t := t) (enF_z hs2).2.1).2.1 (by omega))
              refine V_istore 152 [(5, .int 0), (4, .int (nI v95)), (3, .int (nI p)), (2, .int (nI n)), (0, rf G 69)] (by decide) rfl dX11_book_150 rfl ?_
              refine V_aload_n 153 4 rfl _ rfl rfl dX11_book_152 rfl ?_
              refine V_bipush 155 (59) rfl dX11_book_153 rfl ?_
              refine V_callV (K' := 0) (S' := 0) 158 69 11 1 [.int 59] mkX11_sign lkX11_242 (by decide) rfl rfl (by decide) rfl (Nat.le_of_ble_eq_true rfl) (Nat.le_of_ble_eq_true rfl) (Nat.le_of_ble_eq_true rfl) (Nat.le_of_ble_eq_true rfl) rfl rfl dX11_book_155 rfl (c_X11_sign (c := 59) hRM hT1 (by decide) (by decide) ha147 (fun _ => ?_) (fun e _ _ => absurd e nb147) (fun e _ => absurd e nb147))
              refine Kq_v (k' := 0) (sl' := 0) rfl rfl ?_
              refine V_aload_n 159 4 rfl _ rfl rfl dX11_book_158 rfl ?_
              refine V_callV (K' := 0) (S' := 0) 162 69 11 0 [] mkX11_fine lkX11_152 (by decide) rfl rfl (by decide) rfl (Nat.le_of_ble_eq_true rfl) (Nat.le_of_ble_eq_true rfl) (Nat.le_of_ble_eq_true rfl) (Nat.le_of_ble_eq_true rfl) rfl rfl dX11_book_159 rfl (c_X11_fine (fun e => absurd e nb147) (fun _ => ?_))
              refine Kq_i (k' := 0) (sl' := 0) rfl rfl ?_
              refine V_if_ne 168 165 rfl dX11_book_162 rfl (fun c162 => absurd c162 (by decide)) (fun c162 => ?_)
              refine V_goto 183 rfl dX11_book_165 ?_
              exact V_lv [3, 4] rfl (hb _ _ _ I1 _ (eq.trans (bd_no ((bd_ok e95).trans ((if_neg (fun q => q eb)).trans ((if_neg (by omega)).trans (bd_no e147)))))) kk147.1 kk147.2 (by first | omega | exact (sk_z (t := t) (by first | exact (enF_z hs2).2.1 | exact (enF_z (sk_z (enF_z hs2).2.1).2.1).2.1)).2.1) hx ha147)
          · refine V_aload_n 108 3 rfl _ rfl rfl dX11_book_107 rfl ?_
            refine V_getR 111 69 11 44 92 (hRM 44) flX11_83 rfl rfl rfl (by decide) dX11_book_108 rfl ?_
            refine V_iload 113 0 rfl dX11_book_111 rfl ?_
            refine V_ialdN 114 92 24 v95 (-1) (show lx _ _ _ _ 92 _ = _ from by rw [lx_n (by decide), hN v95 hi95, eb]; rfl) (by omega) (by decide) rfl (by decide) dX11_book_113 rfl ?_
            refine V_iconst 115 (-1) rfl dX11_book_114 rfl ?_
            refine V_icmp_eq 124 118 rfl dX11_book_115 rfl (fun c115 => ?_) (fun c115 => absurd rfl c115)
            refine V_aload_n 125 3 rfl _ rfl rfl dX11_book_124 rfl ?_
            refine V_callV (K' := 0) (S' := 0) 128 69 11 0 [] mkX11_fine lkX11_152 (by decide) rfl rfl (by decide) rfl (Nat.le_of_ble_eq_true rfl) (Nat.le_of_ble_eq_true rfl) (Nat.le_of_ble_eq_true rfl) (Nat.le_of_ble_eq_true rfl) rfl rfl dX11_book_125 rfl (c_X11_fine (fun _ => ?_) (fun e => absurd rfl e))
            refine Kq_i (k' := 0) (sl' := 0) rfl rfl ?_
            refine V_if_eq 143 131 rfl dX11_book_128 rfl (fun c128 => absurd c128 (by decide)) (fun c128 => ?_)
            refine V_iload_n 132 2 rfl rfl dX11_book_131 rfl ?_
            refine V_bipush 134 (8) rfl dX11_book_132 rfl ?_
            refine V_icmp_ne 143 137 rfl dX11_book_134 rfl (fun c134 => absurd (show nI n = 8 from by rw [show n = 8 by omega]; rfl) c134) (fun c134 => ?_)
            refine V_aload_n 138 3 rfl _ rfl rfl dX11_book_137 rfl ?_
            refine V_iconst 139 (3) rfl dX11_book_138 rfl ?_
            refine V_iload_n 140 1 rfl rfl dX11_book_139 rfl ?_
            refine V_callV (K' := 0) (S' := 0) 143 69 11 2 [.int 3, .int (nI p)] mkX11_wrong lkX11_159 (by decide) rfl rfl (by decide) rfl (Nat.le_of_ble_eq_true rfl) (Nat.le_of_ble_eq_true rfl) (Nat.le_of_ble_eq_true rfl) (Nat.le_of_ble_eq_true rfl) rfl rfl dX11_book_140 rfl (c_X11_wrong (kd := 3) (q := p) (fun e => absurd rfl e) (fun _ => ?_))
            refine Kq_v (k' := 0) (sl' := 0) rfl rfl ?_
            refine V_aload_n 144 3 rfl _ rfl rfl dX11_book_143 rfl ?_
            refine V_iconst 145 (0) rfl dX11_book_144 rfl ?_
            refine V_bipush 147 (99) rfl dX11_book_145 rfl ?_
            refine V_callV (K' := 0) (S' := 0) 150 69 11 2 [.int 0, .int 99] mkX11_readNumber lkX11_212 (by decide) rfl rfl (by decide) rfl (Nat.le_of_ble_eq_true rfl) (Nat.le_of_ble_eq_true rfl) (Nat.le_of_ble_eq_true rfl) (Nat.le_of_ble_eq_true rfl) rfl rfl dX11_book_147 rfl (c_X11_readNumber (lo := 0) (cnt := 100) hRM hT1 (by decide) (by omega) (hh_lit 99 (by decide)) (enF_z hs2).2.1 (fun _ => ?_) (fun _ e _ => absurd e nbp) (fun _ _ _ e _ => absurd e nbp))
            refine Kq_i (k' := 0) (sl' := 0) rfl rfl ?_
            refine V_istore 152 [(5, .int 0), (4, .int (nI v95)), (3, .int (nI p)), (2, .int (nI n)), (0, rf G 69)] (by decide) rfl dX11_book_150 rfl ?_
            refine V_aload_n 153 4 rfl _ rfl rfl dX11_book_152 rfl ?_
            refine V_bipush 155 (59) rfl dX11_book_153 rfl ?_
            refine V_callV (K' := 0) (S' := 0) 158 69 11 1 [.int 59] mkX11_sign lkX11_242 (by decide) rfl rfl (by decide) rfl (Nat.le_of_ble_eq_true rfl) (Nat.le_of_ble_eq_true rfl) (Nat.le_of_ble_eq_true rfl) (Nat.le_of_ble_eq_true rfl) rfl rfl dX11_book_155 rfl (c_X11_sign (c := 59) hRM hT1 (by decide) (by decide) (enF_z hs2).2.1 (fun _ => ?_) (fun e _ _ => absurd e nbp) (fun e _ => absurd e nbp))
            refine Kq_v (k' := 0) (sl' := 0) rfl rfl ?_
            refine V_aload_n 159 4 rfl _ rfl rfl dX11_book_158 rfl ?_
            refine V_callV (K' := 0) (S' := 0) 162 69 11 0 [] mkX11_fine lkX11_152 (by decide) rfl rfl (by decide) rfl (Nat.le_of_ble_eq_true rfl) (Nat.le_of_ble_eq_true rfl) (Nat.le_of_ble_eq_true rfl) (Nat.le_of_ble_eq_true rfl) rfl rfl dX11_book_159 rfl (c_X11_fine (fun e => absurd e nbp) (fun _ => ?_))
            refine Kq_i (k' := 0) (sl' := 0) rfl rfl ?_
            refine V_if_ne 168 165 rfl dX11_book_162 rfl (fun c162 => absurd c162 (by decide)) (fun c162 => ?_)
            refine V_goto 183 rfl dX11_book_165 ?_
            exact V_lv [3, 4] rfl (hb _ _ _ I1 _ (eq.trans (bd_no ((bd_ok e95).trans ((if_neg (fun q => q eb)).trans (if_pos (by omega)))))) (by decide) (by decide) hs2 hx (enF_z hs2).2.1)
      · refine Kq_i (k' := 0) (sl' := 0) rfl rfl ?_
        rw [esk] at e95 ⊢
        have kk95 := pNum_k e95
        refine V_istore 100 [(4, .int 0), (3, .int (nI p)), (2, .int (nI n)), (0, rf G 69)] (by decide) rfl dX11_book_98 rfl ?_
        refine V_aload_n 101 3 rfl _ rfl rfl dX11_book_100 rfl ?_
        refine V_callV (K' := 0) (S' := 0) 104 69 11 0 [] mkX11_fine lkX11_152 (by decide) rfl rfl (by decide) rfl (Nat.le_of_ble_eq_true rfl) (Nat.le_of_ble_eq_true rfl) (Nat.le_of_ble_eq_true rfl) (Nat.le_of_ble_eq_true rfl) rfl rfl dX11_book_101 rfl (c_X11_fine (fun e => absurd e nbp) (fun _ => ?_))
        refine Kq_i (k' := 0) (sl' := 0) rfl rfl ?_
        refine V_if_eq 124 107 rfl dX11_book_104 rfl (fun c104 => ?_) (fun c104 => absurd c104 (by decide))
        refine V_aload_n 125 3 rfl _ rfl rfl dX11_book_124 rfl ?_
        refine V_callV (K' := 0) (S' := 0) 128 69 11 0 [] mkX11_fine lkX11_152 (by decide) rfl rfl (by decide) rfl (Nat.le_of_ble_eq_true rfl) (Nat.le_of_ble_eq_true rfl) (Nat.le_of_ble_eq_true rfl) (Nat.le_of_ble_eq_true rfl) rfl rfl dX11_book_125 rfl (c_X11_fine (fun e => absurd e nbp) (fun _ => ?_))
        refine Kq_i (k' := 0) (sl' := 0) rfl rfl ?_
        refine V_if_eq 143 131 rfl dX11_book_128 rfl (fun c128 => ?_) (fun c128 => absurd c128 (by decide))
        refine V_aload_n 144 3 rfl _ rfl rfl dX11_book_143 rfl ?_
        refine V_iconst 145 (0) rfl dX11_book_144 rfl ?_
        refine V_bipush 147 (99) rfl dX11_book_145 rfl ?_
        refine V_callV (K' := 0) (S' := 0) 150 69 11 2 [.int 0, .int 99] mkX11_readNumber lkX11_212 (by decide) rfl rfl (by decide) rfl (Nat.le_of_ble_eq_true rfl) (Nat.le_of_ble_eq_true rfl) (Nat.le_of_ble_eq_true rfl) (Nat.le_of_ble_eq_true rfl) rfl rfl dX11_book_147 rfl (c_X11_readNumber (lo := 0) (cnt := 100) hRM hT1 (by decide) (by omega) (hh_lit 99 (by decide)) ha95 (fun _ => ?_) (fun _ e _ => absurd e nbp) (fun _ _ _ e _ => absurd e nbp))
        refine Kq_i (k' := 0) (sl' := 0) rfl rfl ?_
        refine V_istore 152 [(5, .int 0), (4, .int 0), (3, .int (nI p)), (2, .int (nI n)), (0, rf G 69)] (by decide) rfl dX11_book_150 rfl ?_
        refine V_aload_n 153 4 rfl _ rfl rfl dX11_book_152 rfl ?_
        refine V_bipush 155 (59) rfl dX11_book_153 rfl ?_
        refine V_callV (K' := 0) (S' := 0) 158 69 11 1 [.int 59] mkX11_sign lkX11_242 (by decide) rfl rfl (by decide) rfl (Nat.le_of_ble_eq_true rfl) (Nat.le_of_ble_eq_true rfl) (Nat.le_of_ble_eq_true rfl) (Nat.le_of_ble_eq_true rfl) rfl rfl dX11_book_155 rfl (c_X11_sign (c := 59) hRM hT1 (by decide) (by decide) ha95 (fun _ => ?_) (fun e _ _ => absurd e nbp) (fun e _ => absurd e nbp))
        refine Kq_v (k' := 0) (sl' := 0) rfl rfl ?_
        refine V_aload_n 159 4 rfl _ rfl rfl dX11_book_158 rfl ?_
        refine V_callV (K' := 0) (S' := 0) 162 69 11 0 [] mkX11_fine lkX11_152 (by decide) rfl rfl (by decide) rfl (Nat.le_of_ble_eq_true rfl) (Nat.le_of_ble_eq_true rfl) (Nat.le_of_ble_eq_true rfl) (Nat.le_of_ble_eq_true rfl) rfl rfl dX11_book_159 rfl (c_X11_fine (fun e => absurd e nbp) (fun _ => ?_))
        refine Kq_i (k' := 0) (sl' := 0) rfl rfl ?_
        refine V_if_ne 168 165 rfl dX11_book_162 rfl (fun c162 => absurd c162 (by decide)) (fun c162 => ?_)
        refine V_goto 183 rfl dX11_book_165 ?_
        exact V_lv [3, 4] rfl (hb _ _ _ I1 _ (eq.trans (bd_no (bd_no e95))) kk95.1 kk95.2 hs2 hx ha95)
