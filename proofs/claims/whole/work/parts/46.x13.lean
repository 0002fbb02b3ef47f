/-! the class, XIII: steps -/
theorem j_floorDiv (K : gK) (x y : Int32) (ι : gIm) (ρ : gRm) (Λ : gLm) (hy : ¬ y = 0) : gCe K 1 0 0 jJ9_floorDiv_7cf53 [vI x, vI y] ι ρ Λ (some (vI (sFd x y))) ι ρ Λ := by
  refine gC_of (by decide +kernel) (nle rfl) ?_
  refine x_iload_n 0 DJ9_floorDiv_7cf53_0 rfl rfl ?_
  refine x_iload_n 1 DJ9_floorDiv_7cf53_1 rfl rfl ?_
  refine x_idiv DJ9_floorDiv_7cf53_2 hy ?_
  refine x_istore_n 2 (lv' := [some (vI x), some (vI y), some (vI (x / y))]) DJ9_floorDiv_7cf53_3 rfl ⟨nlt rfl, nlt rfl⟩ rfl ?_
  refine x_iload_n 0 DJ9_floorDiv_7cf53_4 rfl rfl ?_
  refine x_iload_n 1 DJ9_floorDiv_7cf53_5 rfl rfl ?_
  refine x_ixor DJ9_floorDiv_7cf53_6 ?_
  refine x_if_ge 21 DJ9_floorDiv_7cf53_7 (by decide) (fun c_7 => ?_) (fun c_7 => ?_)
  · refine x_iload_n 2 DJ9_floorDiv_7cf53_21 rfl rfl ?_
    exact x_ireturn DJ9_floorDiv_7cf53_22 rfl ⟨by grind [sFd], rfl, rfl, rfl⟩
  · refine x_iload_n 2 DJ9_floorDiv_7cf53_10 rfl rfl ?_
    refine x_iload_n 1 DJ9_floorDiv_7cf53_11 rfl rfl ?_
    refine x_imul DJ9_floorDiv_7cf53_12 ?_
    refine x_iload_n 0 DJ9_floorDiv_7cf53_13 rfl rfl ?_
    refine x_icmp_eq 21 DJ9_floorDiv_7cf53_14 (by decide) (fun c_14 => ?_) (fun c_14 => ?_)
    · refine x_iload_n 2 DJ9_floorDiv_7cf53_21 rfl rfl ?_
      exact x_ireturn DJ9_floorDiv_7cf53_22 rfl ⟨by grind [sFd], rfl, rfl, rfl⟩
    · refine x_iload_n 2 DJ9_floorDiv_7cf53_17 rfl rfl ?_
      refine x_iconst 1 DJ9_floorDiv_7cf53_18 (by decide) ?_
      refine x_isub DJ9_floorDiv_7cf53_19 ?_
      exact x_ireturn DJ9_floorDiv_7cf53_20 rfl ⟨by grind [sFd], rfl, rfl, rfl⟩
theorem x_areTold (K : gK) (a : Int32) (ι : gIm) (ρ : gRm) (Λ : gLm) (ns : Nat) (hS : ι 16 5 = nI ns) : gCe K 1 0 0 jX10_areTold [vR 16, vI a] ι ρ Λ (some (vI (b2i (0 ≤ a ∧ a < (1 : Int32) <<< (nI ns &&& 31))))) ι ρ Λ := by
  refine gC_of (by decide) (nle rfl) ?_
  refine x_iload_n 1 DX10_areTold_0 rfl rfl ?_
  refine x_if_lt 18 DX10_areTold_1 (by decide) (fun c_1 => ?_) (fun c_1 => ?_)
  · refine x_iconst 0 DX10_areTold_18 (by decide) ?_
    exact x_zreturn DX10_areTold_19 rfl (Or.inl rfl) ⟨by grind [b2i], rfl, rfl, rfl⟩
  · refine x_iload_n 1 DX10_areTold_4 rfl rfl ?_
    refine x_iconst 1 DX10_areTold_5 (by decide) ?_
    refine x_aload_n 0 DX10_areTold_6 rfl rfl ?_
    refine x_geti (v := (nI ns)) 5 DX10_areTold_7 (Or.inl F10_27) rfl rfl hS ?_
    refine x_ishl DX10_areTold_10 ?_
    refine x_icmp_ge 18 DX10_areTold_11 (by decide) (fun c_11 => ?_) (fun c_11 => ?_)
    · refine x_iconst 0 DX10_areTold_18 (by decide) ?_
      exact x_zreturn DX10_areTold_19 rfl (Or.inl rfl) ⟨by grind [b2i], rfl, rfl, rfl⟩
    · refine x_iconst 1 DX10_areTold_14 (by decide) ?_
      refine x_goto 19 DX10_areTold_15 (by decide) ?_
      exact x_zreturn DX10_areTold_19 rfl (Or.inr rfl) ⟨by grind [b2i], rfl, rfl, rfl⟩
theorem x_tellW (K : gK) (kind place d n a : Int32) (ι : gIm) (ρ : gRm) (Λ : gLm) (hF : gFix ρ Λ) (ns : Nat) (hS : ι 16 5 = nI ns) (hs : ns < 12) : gCe K 1 0 0 jX10_tell [vR 16, vI kind, vI place, vI d, vI n, vI a] ι ρ Λ (some (vI (nI ns))) (xTell ι ns kind place d n a) ρ Λ := by
  refine gC_of (by decide) (nle rfl) ?_
  refine x_aload_n 0 DX10_tell_0 rfl rfl ?_
  refine x_geti (v := (nI ns)) 5 DX10_tell_1 (Or.inl F10_27) rfl rfl hS ?_
  refine x_bipush 12 DX10_tell_4 (by decide) ?_
  refine x_icmp_lt 12 DX10_tell_6 (by decide) (fun c_6 => ?_) (fun c_6 => False.elim (c_6 (show nI ns < nI 12 from nI_lt (by omega) (by omega))))
  refine x_aload_n 0 DX10_tell_12 rfl rfl ?_
  refine x_getr 0 (some 17) DX10_tell_13 (Or.inr F10_9) rfl rfl (hF.1 16 0 17 rfl) ?_
  refine x_aload_n 0 DX10_tell_16 rfl rfl ?_
  refine x_geti (v := (nI ns)) 5 DX10_tell_17 (Or.inl F10_27) rfl rfl hS ?_
  refine x_iload_n 1 DX10_tell_20 rfl rfl ?_
  refine x_iast ns (nI_cl1 (by omega)) DX10_tell_21 rfl (gIn.fx hF (c := 17) (n := 12) rfl (gIn_nI (by omega) (by omega))) (fun ι21 e_ι21 => ?_)
  refine x_aload_n 0 DX10_tell_22 rfl rfl ?_
  refine x_getr 1 (some 18) DX10_tell_23 (Or.inr F10_15) rfl rfl (hF.1 16 1 18 rfl) ?_
  refine x_aload_n 0 DX10_tell_26 rfl rfl ?_
  refine x_geti (v := (nI ns)) 5 DX10_tell_27 (Or.inl F10_27) rfl rfl ((rd1 e_ι21 (by decide)).trans hS) ?_
  refine x_iload_n 2 DX10_tell_30 rfl rfl ?_
  refine x_iast ns (nI_cl1 (by omega)) DX10_tell_31 rfl (gIn.fx hF (c := 18) (n := 12) rfl (gIn_nI (by omega) (by omega))) (fun ι31 e_ι31 => ?_)
  refine x_aload_n 0 DX10_tell_32 rfl rfl ?_
  refine x_getr 2 (some 19) DX10_tell_33 (Or.inr F10_18) rfl rfl (hF.1 16 2 19 rfl) ?_
  refine x_aload_n 0 DX10_tell_36 rfl rfl ?_
  refine x_geti (v := (nI ns)) 5 DX10_tell_37 (Or.inl F10_27) rfl rfl (((rd1 e_ι31 (by decide)).trans (rd1 e_ι21 (by decide))).trans hS) ?_
  refine x_iload_n 3 DX10_tell_40 rfl rfl ?_
  refine x_iast ns (nI_cl1 (by omega)) DX10_tell_41 rfl (gIn.fx hF (c := 19) (n := 12) rfl (gIn_nI (by omega) (by omega))) (fun ι41 e_ι41 => ?_)
  refine x_aload_n 0 DX10_tell_42 rfl rfl ?_
  refine x_getr 3 (some 20) DX10_tell_43 (Or.inr F10_21) rfl rfl (hF.1 16 3 20 rfl) ?_
  refine x_aload_n 0 DX10_tell_46 rfl rfl ?_
  refine x_geti (v := (nI ns)) 5 DX10_tell_47 (Or.inl F10_27) rfl rfl ((((rd1 e_ι41 (by decide)).trans (rd1 e_ι31 (by decide))).trans (rd1 e_ι21 (by decide))).trans hS) ?_
  refine x_iload DX10_tell_50 rfl ?_
  refine x_iast ns (nI_cl1 (by omega)) DX10_tell_52 rfl (gIn.fx hF (c := 20) (n := 12) rfl (gIn_nI (by omega) (by omega))) (fun ι52 e_ι52 => ?_)
  refine x_aload_n 0 DX10_tell_53 rfl rfl ?_
  refine x_getr 4 (some 21) DX10_tell_54 (Or.inr F10_24) rfl rfl (hF.1 16 4 21 rfl) ?_
  refine x_aload_n 0 DX10_tell_57 rfl rfl ?_
  refine x_geti (v := (nI ns)) 5 DX10_tell_58 (Or.inl F10_27) rfl rfl (((((rd1 e_ι52 (by decide)).trans (rd1 e_ι41 (by decide))).trans (rd1 e_ι31 (by decide))).trans (rd1 e_ι21 (by decide))).trans hS) ?_
  refine x_iload DX10_tell_61 rfl ?_
  refine x_iast ns (nI_cl1 (by omega)) DX10_tell_63 rfl (gIn.fx hF (c := 21) (n := 12) rfl (gIn_nI (by omega) (by omega))) (fun ι63 e_ι63 => ?_)
  refine x_aload_n 0 DX10_tell_64 rfl rfl ?_
  refine x_dup DX10_tell_65 ?_
  refine x_geti (v := (ι 16 6)) 6 DX10_tell_66 (Or.inl F10_31) rfl rfl (((((rd1 e_ι63 (by decide)).trans (rd1 e_ι52 (by decide))).trans (rd1 e_ι41 (by decide))).trans (rd1 e_ι31 (by decide))).trans (rd1 e_ι21 (by decide))) ?_
  refine x_iconst 1 DX10_tell_69 (by decide) ?_
  refine x_iadd DX10_tell_70 ?_
  refine x_puti 6 DX10_tell_71 F10_31 rfl (Or.inl rfl) rfl (fun ι71 e_ι71 => ?_)
  refine x_aload_n 0 DX10_tell_74 rfl rfl ?_
  refine x_dup DX10_tell_75 ?_
  refine x_geti (v := (nI ns)) 5 DX10_tell_76 (Or.inl F10_27) rfl rfl (((((((rd2 e_ι71 (by decide)).trans (rd1 e_ι63 (by decide))).trans (rd1 e_ι52 (by decide))).trans (rd1 e_ι41 (by decide))).trans (rd1 e_ι31 (by decide))).trans (rd1 e_ι21 (by decide))).trans hS) ?_
  refine x_dup_x1 DX10_tell_79 ?_
  refine x_iconst 1 DX10_tell_80 (by decide) ?_
  refine x_iadd DX10_tell_81 ?_
  refine x_puti 5 DX10_tell_82 F10_27 rfl (Or.inl rfl) rfl (fun ι82 e_ι82 => ?_)
  exact x_ireturn DX10_tell_85 rfl ⟨rfl, by subst_vars; rfl, rfl, rfl⟩
theorem x_forgetW (K : gK)  (ι : gIm) (ρ : gRm) (Λ : gLm) (ns : Nat) (hS : ι 16 5 = nI ns) : gCe K 1 0 0 jX10_forget [vR 16] ι ρ Λ (some (vI (nI ns))) (up2 (up2 ι 16 5 0) 16 6 (ι 16 6 + 1)) ρ Λ := by
  refine gC_of (by decide) (nle rfl) ?_
  refine x_aload_n 0 DX10_forget_0 rfl rfl ?_
  refine x_geti (v := (nI ns)) 5 DX10_forget_1 (Or.inl F10_27) rfl rfl hS ?_
  refine x_istore_n 1 (lv' := [some (vR 16), some (vI (nI ns))]) DX10_forget_4 rfl ⟨nlt rfl, nlt rfl⟩ rfl ?_
  refine x_aload_n 0 DX10_forget_5 rfl rfl ?_
  refine x_iconst 0 DX10_forget_6 (by decide) ?_
  refine x_puti 5 DX10_forget_7 F10_27 rfl (Or.inl rfl) rfl (fun ι7 e_ι7 => ?_)
  refine x_aload_n 0 DX10_forget_10 rfl rfl ?_
  refine x_dup DX10_forget_11 ?_
  refine x_geti (v := (ι 16 6)) 6 DX10_forget_12 (Or.inl F10_31) rfl rfl (rd2 e_ι7 (by decide)) ?_
  refine x_iconst 1 DX10_forget_15 (by decide) ?_
  refine x_iadd DX10_forget_16 ?_
  refine x_puti 6 DX10_forget_17 F10_31 rfl (Or.inl rfl) rfl (fun ι17 e_ι17 => ?_)
  refine x_iload_n 1 DX10_forget_20 rfl rfl ?_
  exact x_ireturn DX10_forget_21 rfl ⟨rfl, by subst_vars; rfl, rfl, rfl⟩
theorem x_step (K : gK) (kind arg d n a : Int32) (ι : gIm) (ρ : gRm) (Λ : gLm) (hF : gFix ρ Λ) (ns : Nat) (hS : ι 16 5 = nI ns) (hs : ns ≤ 12) (hle3 : nI ns ≤ 12) : gCe K 3 0 0 jX11_step [vR 0, vI kind, vI arg, vI d, vI n, vI a] ι ρ Λ (some (vI (rs (cStepX kind arg d n a (nI ns)) (nI ns)))) (rsM (cStepX kind arg d n a (nI ns)) 1 ι (xTell ι ns kind (xPl kind arg) d n a)) ρ Λ := by
  refine gC_of (by decide) (nle rfl) ?_
  refine x_iload_n 1 DX11_step_0 rfl rfl ?_
  refine x_if_lt 9 DX11_step_1 (by decide) (fun c_1 => ?_) (fun c_1 => ?_)
  · refine x_aload_n 0 DX11_step_9 rfl rfl ?_
    refine x_bipush (-2) DX11_step_10 (by decide) ?_
    refine x_Ve (ci := 11) (av := [vI (-2)]) (rest := []) (st' := [vI (-2)]) 0 0 DX11_step_12 L11_72 rfl rfl rfl rfl rfl ⟨nle rfl, nle rfl, nle rfl⟩ ⟨rfl, nle rfl⟩ ⟨rfl, nle rfl⟩ (x_refuse K (-2) ι ρ Λ hF ⟨by decide, by decide⟩) rfl ?_
    refine x_nmι (fun ι12 e_ι12 => ?_)
    exact x_ireturn DX11_step_15 rfl ⟨by grind [cStepX, xPl, fi, wr, rs], by grind [cStepX, xPl, fi, wr, rsM], rfl, rfl⟩
  · refine x_iload_n 1 DX11_step_4 rfl rfl ?_
    refine x_iconst 2 DX11_step_5 (by decide) ?_
    refine x_icmp_le 16 DX11_step_6 (by decide) (fun c_6 => ?_) (fun c_6 => ?_)
    · refine x_iload_n 1 DX11_step_16 rfl rfl ?_
      refine x_iconst 2 DX11_step_17 (by decide) ?_
      refine x_icmp_ne 30 DX11_step_18 (by decide) (fun c_18 => ?_) (fun c_18 => ?_)
      · refine x_iload_n 2 DX11_step_30 rfl rfl ?_
        refine x_istore (lv' := [some (vR 0), some (vI kind), some (vI arg), some (vI d), some (vI n), some (vI a), some (vI arg), none]) DX11_step_31 ⟨nlt rfl, nlt rfl⟩ rfl ?_
        refine x_iload DX11_step_33 rfl ?_
        refine x_Se (av := [vI arg]) (rest := []) (st' := [vI (b2i (0 ≤ arg ∧ arg < 6))]) 0 0 DX11_step_35 L11_217 rfl rfl ⟨nle rfl, nle rfl, nle rfl⟩ ⟨rfl, nle rfl⟩ ⟨rfl, nle rfl⟩ (x_isPlace K arg ι ρ Λ) rfl ?_
        refine x_if_eq_b 53 DX11_step_38 (by decide) (fun c_38 => ?_) (fun c_38 => ?_)
        · refine x_aload_n 0 DX11_step_53 rfl rfl ?_
          refine x_iconst (-1) DX11_step_54 (by decide) ?_
          refine x_Ve (ci := 11) (av := [vI (-1)]) (rest := []) (st' := [vI (-1)]) 0 0 DX11_step_55 L11_72 rfl rfl rfl rfl rfl ⟨nle rfl, nle rfl, nle rfl⟩ ⟨rfl, nle rfl⟩ ⟨rfl, nle rfl⟩ (x_refuse K (-1) ι ρ Λ hF ⟨by decide, by decide⟩) rfl ?_
          refine x_nmι (fun ι55 e_ι55 => ?_)
          exact x_ireturn DX11_step_58 rfl ⟨by grind [cStepX, xPl, fi, wr, rs], by grind [cStepX, xPl, fi, wr, rsM], rfl, rfl⟩
        · refine x_aload_n 0 DX11_step_41 rfl rfl ?_
          refine x_getr 6 (some 16) DX11_step_42 (Or.inr F11_51) rfl rfl (hF.1 0 6 16 rfl) ?_
          refine x_iload DX11_step_45 rfl ?_
          refine x_Ve (ci := 10) (av := [vI a]) (rest := []) (st' := [vI (b2i (0 ≤ a ∧ a < (1 : Int32) <<< (nI ns &&& 31)))]) 0 0 DX11_step_47 L11_255 rfl rfl rfl rfl rfl ⟨nle rfl, nle rfl, nle rfl⟩ ⟨rfl, nle rfl⟩ ⟨rfl, nle rfl⟩ (x_areTold K a ι ρ Λ ns hS) rfl ?_
          refine x_if_ne_b 59 DX11_step_50 (by decide) (fun c_50 => ?_) (fun c_50 => ?_)
          · refine x_iload_n 3 DX11_step_59 rfl rfl ?_
            refine x_iconst 1 DX11_step_60 (by decide) ?_
            refine x_bipush 9 DX11_step_61 (by decide) ?_
            refine x_Se (av := [vI d, vI 1, vI 9]) (rest := []) (st' := [vI (wr d 1 9)]) 0 0 DX11_step_63 L11_83 rfl rfl ⟨nle rfl, nle rfl, nle rfl⟩ ⟨rfl, nle rfl⟩ ⟨rfl, nle rfl⟩ (x_misfit K d 1 9 ι ρ Λ) rfl ?_
            refine x_iload DX11_step_66 rfl ?_
            refine x_iconst 1 DX11_step_68 (by decide) ?_
            refine x_bipush 60 DX11_step_69 (by decide) ?_
            refine x_Se (av := [vI n, vI 1, vI 60]) (rest := [vI (wr d 1 9)]) (st' := [vI (wr n 1 60), vI (wr d 1 9)]) 0 0 DX11_step_71 L11_83 rfl rfl ⟨nle rfl, nle rfl, nle rfl⟩ ⟨rfl, nle rfl⟩ ⟨rfl, nle rfl⟩ (x_misfit K n 1 60 ι ρ Λ) rfl ?_
            refine x_Se (av := [vI (wr d 1 9), vI (wr n 1 60)]) (rest := []) (st' := [vI (fi (wr d 1 9) (wr n 1 60))]) 0 0 DX11_step_74 L11_153 rfl rfl ⟨nle rfl, nle rfl, nle rfl⟩ ⟨rfl, nle rfl⟩ ⟨rfl, nle rfl⟩ (x_first K (wr d 1 9) (wr n 1 60) ι ρ Λ) rfl ?_
            refine x_istore (lv' := [some (vR 0), some (vI kind), some (vI arg), some (vI d), some (vI n), some (vI a), some (vI arg), some (vI (fi (wr d 1 9) (wr n 1 60)))]) DX11_step_77 ⟨nlt rfl, nlt rfl⟩ rfl ?_
            refine x_iload DX11_step_79 rfl ?_
            refine x_if_ne 100 DX11_step_81 (by decide) (fun c_81 => ?_) (fun c_81 => ?_)
            · refine x_iload DX11_step_100 rfl ?_
              refine x_if_eq 114 DX11_step_102 (by decide) (fun c_102 => False.elim (by grind)) (fun c_102 => ?_)
              refine x_aload_n 0 DX11_step_105 rfl rfl ?_
              refine x_iload DX11_step_106 rfl ?_
              refine x_Ve (ci := 11) (av := [vI (fi (wr d 1 9) (wr n 1 60))]) (rest := []) (st' := [vI (fi (wr d 1 9) (wr n 1 60))]) 0 0 DX11_step_108 L11_72 rfl rfl rfl rfl rfl ⟨nle rfl, nle rfl, nle rfl⟩ ⟨rfl, nle rfl⟩ ⟨rfl, nle rfl⟩ (x_refuse K (fi (wr d 1 9) (wr n 1 60)) ι ρ Λ hF (fi_in (by assumption))) rfl ?_
              refine x_nmι (fun ι108 e_ι108 => ?_)
              refine x_goto 129 DX11_step_111 (by decide) ?_
              exact x_ireturn DX11_step_129 rfl ⟨by grind [cStepX, xPl, fi, wr, rs], by grind [cStepX, xPl, fi, wr, rsM], rfl, rfl⟩
            · refine x_aload_n 0 DX11_step_84 rfl rfl ?_
              refine x_getr 6 (some 16) DX11_step_85 (Or.inr F11_51) rfl rfl (hF.1 0 6 16 rfl) ?_
              refine x_geti (v := (nI ns)) 5 DX11_step_88 (Or.inl F11_258) rfl rfl hS ?_
              refine x_bipush 12 DX11_step_91 (by decide) ?_
              refine x_icmp_lt 100 DX11_step_93 (by decide) (fun c_93 => ?_) (fun c_93 => ?_)
              · refine x_iload DX11_step_100 rfl ?_
                refine x_if_eq 114 DX11_step_102 (by decide) (fun c_102 => ?_) (fun c_102 => False.elim (by grind))
                refine x_aload_n 0 DX11_step_114 rfl rfl ?_
                refine x_getr 6 (some 16) DX11_step_115 (Or.inr F11_51) rfl rfl (hF.1 0 6 16 rfl) ?_
                refine x_iload_n 1 DX11_step_118 rfl rfl ?_
                refine x_iload DX11_step_119 rfl ?_
                refine x_iload_n 3 DX11_step_121 rfl rfl ?_
                refine x_iload DX11_step_122 rfl ?_
                refine x_iload DX11_step_124 rfl ?_
                refine x_Ve (ci := 10) (av := [vI kind, vI arg, vI d, vI n, vI a]) (rest := []) (st' := [vI (nI ns)]) 0 0 DX11_step_126 L11_259 rfl rfl rfl rfl rfl ⟨nle rfl, nle rfl, nle rfl⟩ ⟨rfl, nle rfl⟩ ⟨rfl, nle rfl⟩ (x_tellW K kind arg d n a ι ρ Λ hF ns hS (lt_lit (x := 12) rfl (by grind) hs)) rfl ?_
                refine x_nmι (fun ι126 e_ι126 => ?_)
                exact x_ireturn DX11_step_129 rfl ⟨by rw [rs, if_pos (by grind [cStepX, xPl, fi, wr])], by rw [rsM, if_pos (by grind [cStepX, xPl, fi, wr]), xPl]; simp only [*, if_true, if_false], rfl, rfl⟩
              · refine x_bipush (-6) DX11_step_96 (by decide) ?_
                refine x_istore (lv' := [some (vR 0), some (vI kind), some (vI arg), some (vI d), some (vI n), some (vI a), some (vI arg), some (vI (-6))]) DX11_step_98 ⟨nlt rfl, nlt rfl⟩ rfl ?_
                refine x_iload DX11_step_100 rfl ?_
                refine x_if_eq 114 DX11_step_102 (by decide) (fun h => absurd h (by decide)) (fun _ => ?_)
                refine x_aload_n 0 DX11_step_105 rfl rfl ?_
                refine x_iload DX11_step_106 rfl ?_
                refine x_Ve (ci := 11) (av := [vI (-6)]) (rest := []) (st' := [vI (-6)]) 0 0 DX11_step_108 L11_72 rfl rfl rfl rfl rfl ⟨nle rfl, nle rfl, nle rfl⟩ ⟨rfl, nle rfl⟩ ⟨rfl, nle rfl⟩ (x_refuse K (-6) ι ρ Λ hF ⟨by decide, by decide⟩) rfl ?_
                refine x_nmι (fun ι108 e_ι108 => ?_)
                refine x_goto 129 DX11_step_111 (by decide) ?_
                exact x_ireturn DX11_step_129 rfl ⟨by grind [cStepX, xPl, fi, wr, rs], by grind [cStepX, xPl, fi, wr, rsM], rfl, rfl⟩
          · refine x_aload_n 0 DX11_step_53 rfl rfl ?_
            refine x_iconst (-1) DX11_step_54 (by decide) ?_
            refine x_Ve (ci := 11) (av := [vI (-1)]) (rest := []) (st' := [vI (-1)]) 0 0 DX11_step_55 L11_72 rfl rfl rfl rfl rfl ⟨nle rfl, nle rfl, nle rfl⟩ ⟨rfl, nle rfl⟩ ⟨rfl, nle rfl⟩ (x_refuse K (-1) ι ρ Λ hF ⟨by decide, by decide⟩) rfl ?_
            refine x_nmι (fun ι55 e_ι55 => ?_)
            exact x_ireturn DX11_step_58 rfl ⟨by grind [cStepX, xPl, fi, wr, rs], by grind [cStepX, xPl, fi, wr, rsM], rfl, rfl⟩
      · refine x_iload_n 2 DX11_step_21 rfl rfl ?_
        refine x_bipush 100 DX11_step_22 (by decide) ?_
        refine x_Se (av := [vI arg, vI 100]) (rest := []) (st' := [vI (sFd arg 100)]) 0 0 DX11_step_24 L11_250 rfl rfl ⟨nle rfl, nle rfl, nle rfl⟩ ⟨rfl, nle rfl⟩ ⟨rfl, nle rfl⟩ (j_floorDiv K arg 100 ι ρ Λ (by decide)) rfl ?_
        refine x_goto 31 DX11_step_27 (by decide) ?_
        refine x_istore (lv' := [some (vR 0), some (vI kind), some (vI arg), some (vI d), some (vI n), some (vI a), some (vI (sFd arg 100)), none]) DX11_step_31 ⟨nlt rfl, nlt rfl⟩ rfl ?_
        refine x_iload DX11_step_33 rfl ?_
        refine x_Se (av := [vI (sFd arg 100)]) (rest := []) (st' := [vI (b2i (0 ≤ (sFd arg 100) ∧ (sFd arg 100) < 6))]) 0 0 DX11_step_35 L11_217 rfl rfl ⟨nle rfl, nle rfl, nle rfl⟩ ⟨rfl, nle rfl⟩ ⟨rfl, nle rfl⟩ (x_isPlace K (sFd arg 100) ι ρ Λ) rfl ?_
        refine x_if_eq_b 53 DX11_step_38 (by decide) (fun c_38 => ?_) (fun c_38 => ?_)
        · refine x_aload_n 0 DX11_step_53 rfl rfl ?_
          refine x_iconst (-1) DX11_step_54 (by decide) ?_
          refine x_Ve (ci := 11) (av := [vI (-1)]) (rest := []) (st' := [vI (-1)]) 0 0 DX11_step_55 L11_72 rfl rfl rfl rfl rfl ⟨nle rfl, nle rfl, nle rfl⟩ ⟨rfl, nle rfl⟩ ⟨rfl, nle rfl⟩ (x_refuse K (-1) ι ρ Λ hF ⟨by decide, by decide⟩) rfl ?_
          refine x_nmι (fun ι55 e_ι55 => ?_)
          exact x_ireturn DX11_step_58 rfl ⟨by grind [cStepX, xPl, fi, wr, rs], by grind [cStepX, xPl, fi, wr, rsM], rfl, rfl⟩
        · refine x_aload_n 0 DX11_step_41 rfl rfl ?_
          refine x_getr 6 (some 16) DX11_step_42 (Or.inr F11_51) rfl rfl (hF.1 0 6 16 rfl) ?_
          refine x_iload DX11_step_45 rfl ?_
          refine x_Ve (ci := 10) (av := [vI a]) (rest := []) (st' := [vI (b2i (0 ≤ a ∧ a < (1 : Int32) <<< (nI ns &&& 31)))]) 0 0 DX11_step_47 L11_255 rfl rfl rfl rfl rfl ⟨nle rfl, nle rfl, nle rfl⟩ ⟨rfl, nle rfl⟩ ⟨rfl, nle rfl⟩ (x_areTold K a ι ρ Λ ns hS) rfl ?_
          refine x_if_ne_b 59 DX11_step_50 (by decide) (fun c_50 => ?_) (fun c_50 => ?_)
          · refine x_iload_n 3 DX11_step_59 rfl rfl ?_
            refine x_iconst 1 DX11_step_60 (by decide) ?_
            refine x_bipush 9 DX11_step_61 (by decide) ?_
            refine x_Se (av := [vI d, vI 1, vI 9]) (rest := []) (st' := [vI (wr d 1 9)]) 0 0 DX11_step_63 L11_83 rfl rfl ⟨nle rfl, nle rfl, nle rfl⟩ ⟨rfl, nle rfl⟩ ⟨rfl, nle rfl⟩ (x_misfit K d 1 9 ι ρ Λ) rfl ?_
            refine x_iload DX11_step_66 rfl ?_
            refine x_iconst 1 DX11_step_68 (by decide) ?_
            refine x_bipush 60 DX11_step_69 (by decide) ?_
            refine x_Se (av := [vI n, vI 1, vI 60]) (rest := [vI (wr d 1 9)]) (st' := [vI (wr n 1 60), vI (wr d 1 9)]) 0 0 DX11_step_71 L11_83 rfl rfl ⟨nle rfl, nle rfl, nle rfl⟩ ⟨rfl, nle rfl⟩ ⟨rfl, nle rfl⟩ (x_misfit K n 1 60 ι ρ Λ) rfl ?_
            refine x_Se (av := [vI (wr d 1 9), vI (wr n 1 60)]) (rest := []) (st' := [vI (fi (wr d 1 9) (wr n 1 60))]) 0 0 DX11_step_74 L11_153 rfl rfl ⟨nle rfl, nle rfl, nle rfl⟩ ⟨rfl, nle rfl⟩ ⟨rfl, nle rfl⟩ (x_first K (wr d 1 9) (wr n 1 60) ι ρ Λ) rfl ?_
            refine x_istore (lv' := [some (vR 0), some (vI kind), some (vI arg), some (vI d), some (vI n), some (vI a), some (vI (sFd arg 100)), some (vI (fi (wr d 1 9) (wr n 1 60)))]) DX11_step_77 ⟨nlt rfl, nlt rfl⟩ rfl ?_
            refine x_iload DX11_step_79 rfl ?_
            refine x_if_ne 100 DX11_step_81 (by decide) (fun c_81 => ?_) (fun c_81 => ?_)
            · refine x_iload DX11_step_100 rfl ?_
              refine x_if_eq 114 DX11_step_102 (by decide) (fun c_102 => False.elim (by grind)) (fun c_102 => ?_)
              refine x_aload_n 0 DX11_step_105 rfl rfl ?_
              refine x_iload DX11_step_106 rfl ?_
              refine x_Ve (ci := 11) (av := [vI (fi (wr d 1 9) (wr n 1 60))]) (rest := []) (st' := [vI (fi (wr d 1 9) (wr n 1 60))]) 0 0 DX11_step_108 L11_72 rfl rfl rfl rfl rfl ⟨nle rfl, nle rfl, nle rfl⟩ ⟨rfl, nle rfl⟩ ⟨rfl, nle rfl⟩ (x_refuse K (fi (wr d 1 9) (wr n 1 60)) ι ρ Λ hF (fi_in (by assumption))) rfl ?_
              refine x_nmι (fun ι108 e_ι108 => ?_)
              refine x_goto 129 DX11_step_111 (by decide) ?_
              exact x_ireturn DX11_step_129 rfl ⟨by grind [cStepX, xPl, fi, wr, rs], by grind [cStepX, xPl, fi, wr, rsM], rfl, rfl⟩
            · refine x_aload_n 0 DX11_step_84 rfl rfl ?_
              refine x_getr 6 (some 16) DX11_step_85 (Or.inr F11_51) rfl rfl (hF.1 0 6 16 rfl) ?_
              refine x_geti (v := (nI ns)) 5 DX11_step_88 (Or.inl F11_258) rfl rfl hS ?_
              refine x_bipush 12 DX11_step_91 (by decide) ?_
              refine x_icmp_lt 100 DX11_step_93 (by decide) (fun c_93 => ?_) (fun c_93 => ?_)
              · refine x_iload DX11_step_100 rfl ?_
                refine x_if_eq 114 DX11_step_102 (by decide) (fun c_102 => ?_) (fun c_102 => False.elim (by grind))
                refine x_aload_n 0 DX11_step_114 rfl rfl ?_
                refine x_getr 6 (some 16) DX11_step_115 (Or.inr F11_51) rfl rfl (hF.1 0 6 16 rfl) ?_
                refine x_iload_n 1 DX11_step_118 rfl rfl ?_
                refine x_iload DX11_step_119 rfl ?_
                refine x_iload_n 3 DX11_step_121 rfl rfl ?_
                refine x_iload DX11_step_122 rfl ?_
                refine x_iload DX11_step_124 rfl ?_
                refine x_Ve (ci := 10) (av := [vI kind, vI (sFd arg 100), vI d, vI n, vI a]) (rest := []) (st' := [vI (nI ns)]) 0 0 DX11_step_126 L11_259 rfl rfl rfl rfl rfl ⟨nle rfl, nle rfl, nle rfl⟩ ⟨rfl, nle rfl⟩ ⟨rfl, nle rfl⟩ (x_tellW K kind (sFd arg 100) d n a ι ρ Λ hF ns hS (lt_lit (x := 12) rfl (by grind) hs)) rfl ?_
                refine x_nmι (fun ι126 e_ι126 => ?_)
                exact x_ireturn DX11_step_129 rfl ⟨by rw [rs, if_pos (by grind [cStepX, xPl, fi, wr])], by rw [rsM, if_pos (by grind [cStepX, xPl, fi, wr]), xPl]; simp only [*, if_true, if_false], rfl, rfl⟩
              · refine x_bipush (-6) DX11_step_96 (by decide) ?_
                refine x_istore (lv' := [some (vR 0), some (vI kind), some (vI arg), some (vI d), some (vI n), some (vI a), some (vI (sFd arg 100)), some (vI (-6))]) DX11_step_98 ⟨nlt rfl, nlt rfl⟩ rfl ?_
                refine x_iload DX11_step_100 rfl ?_
                refine x_if_eq 114 DX11_step_102 (by decide) (fun h => absurd h (by decide)) (fun _ => ?_)
                refine x_aload_n 0 DX11_step_105 rfl rfl ?_
                refine x_iload DX11_step_106 rfl ?_
                refine x_Ve (ci := 11) (av := [vI (-6)]) (rest := []) (st' := [vI (-6)]) 0 0 DX11_step_108 L11_72 rfl rfl rfl rfl rfl ⟨nle rfl, nle rfl, nle rfl⟩ ⟨rfl, nle rfl⟩ ⟨rfl, nle rfl⟩ (x_refuse K (-6) ι ρ Λ hF ⟨by decide, by decide⟩) rfl ?_
                refine x_nmι (fun ι108 e_ι108 => ?_)
                refine x_goto 129 DX11_step_111 (by decide) ?_
                exact x_ireturn DX11_step_129 rfl ⟨by grind [cStepX, xPl, fi, wr, rs], by grind [cStepX, xPl, fi, wr, rsM], rfl, rfl⟩
          · refine x_aload_n 0 DX11_step_53 rfl rfl ?_
            refine x_iconst (-1) DX11_step_54 (by decide) ?_
            refine x_Ve (ci := 11) (av := [vI (-1)]) (rest := []) (st' := [vI (-1)]) 0 0 DX11_step_55 L11_72 rfl rfl rfl rfl rfl ⟨nle rfl, nle rfl, nle rfl⟩ ⟨rfl, nle rfl⟩ ⟨rfl, nle rfl⟩ (x_refuse K (-1) ι ρ Λ hF ⟨by decide, by decide⟩) rfl ?_
            refine x_nmι (fun ι55 e_ι55 => ?_)
            exact x_ireturn DX11_step_58 rfl ⟨by grind [cStepX, xPl, fi, wr, rs], by grind [cStepX, xPl, fi, wr, rsM], rfl, rfl⟩
    · refine x_aload_n 0 DX11_step_9 rfl rfl ?_
      refine x_bipush (-2) DX11_step_10 (by decide) ?_
      refine x_Ve (ci := 11) (av := [vI (-2)]) (rest := []) (st' := [vI (-2)]) 0 0 DX11_step_12 L11_72 rfl rfl rfl rfl rfl ⟨nle rfl, nle rfl, nle rfl⟩ ⟨rfl, nle rfl⟩ ⟨rfl, nle rfl⟩ (x_refuse K (-2) ι ρ Λ hF ⟨by decide, by decide⟩) rfl ?_
      refine x_nmι (fun ι12 e_ι12 => ?_)
      exact x_ireturn DX11_step_15 rfl ⟨by grind [cStepX, xPl, fi, wr, rs], by grind [cStepX, xPl, fi, wr, rsM], rfl, rfl⟩
theorem x_clear (K : gK)  (ι : gIm) (ρ : gRm) (Λ : gLm) (hF : gFix ρ Λ) (ns : Nat) (hS : ι 16 5 = nI ns) : gCe K 2 0 0 jX11_clear [vR 0] ι ρ Λ (some (vI (nI ns))) (up2 (up2 ι 16 5 0) 16 6 (ι 16 6 + 1)) ρ Λ := by
  refine gC_of (by decide) (nle rfl) ?_
  refine x_aload_n 0 DX11_clear_0 rfl rfl ?_
  refine x_getr 6 (some 16) DX11_clear_1 (Or.inr F11_51) rfl rfl (hF.1 0 6 16 rfl) ?_
  refine x_Ve (ci := 10) (av := []) (rest := []) (st' := [vI (nI ns)]) 0 0 DX11_clear_4 L11_262 rfl rfl rfl rfl rfl ⟨nle rfl, nle rfl, nle rfl⟩ ⟨rfl, nle rfl⟩ ⟨rfl, nle rfl⟩ (x_forgetW K ι ρ Λ ns hS) rfl ?_
  refine x_nmι (fun ι4 e_ι4 => ?_)
  exact x_ireturn DX11_clear_7 rfl ⟨rfl, by assumption, rfl, rfl⟩
