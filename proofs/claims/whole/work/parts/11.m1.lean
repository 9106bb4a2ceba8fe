        · rw [sk_st (fun h => c_s h.2), if_pos c_l] at hq
          refine V_aload_n 1 0 rfl _ rfl rfl dX11_here_0 rfl ?_
          refine V_getI 4 69 11 4 (nI a) rfl flX11_129 rfl rfl rfl (by decide) dX11_here_1 rfl ?_
          refine V_aload_n 5 0 rfl _ rfl rfl dX11_here_4 rfl ?_
          refine V_getI 8 69 11 3 (nI z) hz flX11_132 rfl rfl rfl (by decide) dX11_here_5 rfl ?_
          refine V_icmp_ge 38 11 rfl dX11_here_8 rfl (fun c8 => absurd c8 (nI_ge c_l (by omega))) (fun c8 => ?_)
          refine V_aload_n 12 0 rfl _ rfl rfl dX11_here_11 rfl ?_
          refine V_getR 15 69 11 9 71 (hRM 9) flX11_20 rfl rfl rfl (by decide) dX11_here_12 rfl ?_
          refine V_aload_n 16 0 rfl _ rfl rfl dX11_here_15 rfl ?_
          refine V_getI 19 69 11 4 (nI a) rfl flX11_129 rfl rfl rfl (by decide) dX11_here_16 rfl ?_
          refine V_iald 20 71 600 (nI (t a)) (by rw [show (nI a).toNatClampNeg = a from nI_clamp (by omega)]; exact ht a (by omega)) (vp_in_nI (show a < 600 by omega) (by decide)) rfl (by decide) dX11_here_19 rfl ?_
          refine V_bipush 22 (32) rfl dX11_here_20 rfl ?_
          refine V_icmp_ne 38 25 rfl dX11_here_22 rfl (fun c22 => ?_) (fun c22 => absurd ((nI_eq (by have := hb a; omega) (by decide)).mp c22) c_s)
          refine V_aload_n 39 0 rfl _ rfl rfl dX11_here_38 rfl ?_
          refine V_getI 42 69 11 4 (nI a) rfl flX11_129 rfl rfl rfl (by decide) dX11_here_39 rfl ?_
          refine V_aload_n 43 0 rfl _ rfl rfl dX11_here_42 rfl ?_
          refine V_getI 46 69 11 3 (nI z) hz flX11_132 rfl rfl rfl (by decide) dX11_here_43 rfl ?_
          refine V_icmp_ge 61 49 rfl dX11_here_46 rfl (fun c46 => absurd c46 (nI_ge c_l (by omega))) (fun c46 => ?_)
          refine V_aload_n 50 0 rfl _ rfl rfl dX11_here_49 rfl ?_
          refine V_getR 53 69 11 9 71 (hRM 9) flX11_20 rfl rfl rfl (by decide) dX11_here_50 rfl ?_
          refine V_aload_n 54 0 rfl _ rfl rfl dX11_here_53 rfl ?_
          refine V_getI 57 69 11 4 (nI a) rfl flX11_129 rfl rfl rfl (by decide) dX11_here_54 rfl ?_
          refine V_iald 58 71 600 (nI (t a)) (by rw [show (nI a).toNatClampNeg = a from nI_clamp (by omega)]; exact ht a (by omega)) (vp_in_nI (show a < 600 by omega) (by decide)) rfl (by decide) dX11_here_57 rfl ?_
          refine V_goto 62 rfl dX11_here_58 ?_
          refine V_ret_i rfl rfl (Nat.le_refl _) (fun h => absurd h (by decide)) (Nat.le_refl _) (hq) dX11_here_62
      · rw [sk_st (fun h => c_l h.1), if_neg c_l] at hq
        refine V_aload_n 1 0 rfl _ rfl rfl dX11_here_0 rfl ?_
        refine V_getI 4 69 11 4 (nI a) rfl flX11_129 rfl rfl rfl (by decide) dX11_here_1 rfl ?_
        refine V_aload_n 5 0 rfl _ rfl rfl dX11_here_4 rfl ?_
        refine V_getI 8 69 11 3 (nI z) hz flX11_132 rfl rfl rfl (by decide) dX11_here_5 rfl ?_
        refine V_icmp_ge 38 11 rfl dX11_here_8 rfl (fun c8 => ?_) (fun c8 => absurd (nI_le (show z ≤ a by omega) (by omega)) c8)
        refine V_aload_n 39 0 rfl _ rfl rfl dX11_here_38 rfl ?_
        refine V_getI 42 69 11 4 (nI a) rfl flX11_129 rfl rfl rfl (by decide) dX11_here_39 rfl ?_
        refine V_aload_n 43 0 rfl _ rfl rfl dX11_here_42 rfl ?_
        refine V_getI 46 69 11 3 (nI z) hz flX11_132 rfl rfl rfl (by decide) dX11_here_43 rfl ?_
        refine V_icmp_ge 61 49 rfl dX11_here_46 rfl (fun c46 => ?_) (fun c46 => absurd (nI_le (show z ≤ a by omega) (by omega)) c46)
        refine V_iconst 62 (0) rfl dX11_here_61 rfl ?_
        refine V_ret_i rfl rfl (Nat.le_refl _) (fun h => absurd h (by decide)) (Nat.le_refl _) (hq) dX11_here_62
  exact key (z - a) a (Nat.le_refl _) ha hq
