/-! the model, VIII: steps, people, counts -/
theorem m_step (K : gK) (kind arg d n a : Int32) (ι : gIm) (ρ : gRm) (Λ : gLm) (hF : gFix ρ Λ) (ns : Nat) (hS : ι 40 8 = nI ns) (hs : ns ≤ 12) : gCe K 2 0 0 jX12_step [vR 40, vI kind, vI arg, vI d, vI n, vI a] ι ρ Λ (some (vI (rs (cStep kind arg d n a (nI ns)) (nI ns)))) (rsM (cStep kind arg d n a (nI ns)) 41 ι (mStep ι ns kind arg d n a)) ρ Λ := by
  refine gC_of (by decide) (nle rfl) ?_
  refine x_iload_n 1 DX12_step_0 rfl rfl ?_
  refine x_iconst 3 DX12_step_1 (by decide) ?_
  refine x_Se (av := [vI kind, vI 3]) (rest := []) (st' := [vI (b2i (0 ≤ kind ∧ kind < 3))]) 0 0 DX12_step_2 L12_124 rfl rfl ⟨nle rfl, nle rfl, nle rfl⟩ ⟨rfl, nle rfl⟩ ⟨rfl, nle rfl⟩ (m_isIn K kind 3 ι ρ Λ) rfl ?_
  refine x_if_ne_b 15 DX12_step_5 (by decide) (fun c_5 => ?_) (fun c_5 => ?_)
  · refine x_iload_n 1 DX12_step_15 rfl rfl ?_
    refine x_iconst 2 DX12_step_16 (by decide) ?_
    refine x_icmp_ne 30 DX12_step_17 (by decide) (fun c_17 => ?_) (fun c_17 => ?_)
    · refine x_iload_n 2 DX12_step_30 rfl rfl ?_
      refine x_bipush 6 DX12_step_31 (by decide) ?_
      refine x_Se (av := [vI arg, vI 6]) (rest := []) (st' := [vI (b2i (0 ≤ arg ∧ arg < 6))]) 0 0 DX12_step_33 L12_124 rfl rfl ⟨nle rfl, nle rfl, nle rfl⟩ ⟨rfl, nle rfl⟩ ⟨rfl, nle rfl⟩ (m_isIn K arg 6 ι ρ Λ) rfl ?_
      refine x_istore (lv' := [some (vR 40), some (vI kind), some (vI arg), some (vI d), some (vI n), some (vI a), some (vI (b2i (0 ≤ arg ∧ arg < 6)))]) DX12_step_36 ⟨nlt rfl, nlt rfl⟩ rfl ?_
      refine x_iload DX12_step_38 rfl ?_
      refine x_if_eq_b 59 DX12_step_40 (by decide) (fun c_40 => ?_) (fun c_40 => ?_)
      · refine x_aload_n 0 DX12_step_59 rfl rfl ?_
        refine x_iconst (-1) DX12_step_60 (by decide) ?_
        refine x_Ve (ci := 12) (av := [vI (-1)]) (rest := []) (st' := [vI (-1)]) 0 0 DX12_step_61 L12_120 rfl rfl rfl rfl rfl ⟨nle rfl, nle rfl, nle rfl⟩ ⟨rfl, nle rfl⟩ ⟨rfl, nle rfl⟩ (m_refuse K (-1) ι ρ Λ hF ⟨by decide, by decide⟩) rfl ?_
        refine x_nmι (fun ι61 e_ι61 => ?_)
        exact x_ireturn DX12_step_64 rfl ⟨by grind [cStep, rs], by grind [cStep, rsM], rfl, rfl⟩
      · refine x_iload DX12_step_43 rfl ?_
        refine x_if_lt 59 DX12_step_45 (by decide) (fun c_45 => ?_) (fun c_45 => ?_)
        · refine x_aload_n 0 DX12_step_59 rfl rfl ?_
          refine x_iconst (-1) DX12_step_60 (by decide) ?_
          refine x_Ve (ci := 12) (av := [vI (-1)]) (rest := []) (st' := [vI (-1)]) 0 0 DX12_step_61 L12_120 rfl rfl rfl rfl rfl ⟨nle rfl, nle rfl, nle rfl⟩ ⟨rfl, nle rfl⟩ ⟨rfl, nle rfl⟩ (m_refuse K (-1) ι ρ Λ hF ⟨by decide, by decide⟩) rfl ?_
          refine x_nmι (fun ι61 e_ι61 => ?_)
          exact x_ireturn DX12_step_64 rfl ⟨by grind [cStep, rs], by grind [cStep, rsM], rfl, rfl⟩
        · refine x_iload DX12_step_48 rfl ?_
          refine x_iconst 1 DX12_step_50 (by decide) ?_
          refine x_aload_n 0 DX12_step_51 rfl rfl ?_
          refine x_geti (v := (nI ns)) 8 DX12_step_52 (Or.inl F12_216) rfl rfl hS ?_
          refine x_ishl DX12_step_55 ?_
          refine x_icmp_lt 65 DX12_step_56 (by decide) (fun c_56 => ?_) (fun c_56 => ?_)
          · refine x_iload_n 3 DX12_step_65 rfl rfl ?_
            refine x_iconst 1 DX12_step_66 (by decide) ?_
            refine x_icmp_lt 76 DX12_step_67 (by decide) (fun c_67 => ?_) (fun c_67 => ?_)
            · refine x_aload_n 0 DX12_step_76 rfl rfl ?_
              refine x_bipush (-4) DX12_step_77 (by decide) ?_
              refine x_Ve (ci := 12) (av := [vI (-4)]) (rest := []) (st' := [vI (-4)]) 0 0 DX12_step_79 L12_120 rfl rfl rfl rfl rfl ⟨nle rfl, nle rfl, nle rfl⟩ ⟨rfl, nle rfl⟩ ⟨rfl, nle rfl⟩ (m_refuse K (-4) ι ρ Λ hF ⟨by decide, by decide⟩) rfl ?_
              refine x_nmι (fun ι79 e_ι79 => ?_)
              exact x_ireturn DX12_step_82 rfl ⟨by grind [cStep, rs], by grind [cStep, rsM], rfl, rfl⟩
            · refine x_iload DX12_step_70 rfl ?_
              refine x_iconst 1 DX12_step_72 (by decide) ?_
              refine x_icmp_ge 83 DX12_step_73 (by decide) (fun c_73 => ?_) (fun c_73 => ?_)
              · refine x_iload_n 3 DX12_step_83 rfl rfl ?_
                refine x_bipush 9 DX12_step_84 (by decide) ?_
                refine x_icmp_gt 105 DX12_step_86 (by decide) (fun c_86 => ?_) (fun c_86 => ?_)
                · refine x_aload_n 0 DX12_step_105 rfl rfl ?_
                  refine x_bipush (-6) DX12_step_106 (by decide) ?_
                  refine x_Ve (ci := 12) (av := [vI (-6)]) (rest := []) (st' := [vI (-6)]) 0 0 DX12_step_108 L12_120 rfl rfl rfl rfl rfl ⟨nle rfl, nle rfl, nle rfl⟩ ⟨rfl, nle rfl⟩ ⟨rfl, nle rfl⟩ (m_refuse K (-6) ι ρ Λ hF ⟨by decide, by decide⟩) rfl ?_
                  refine x_nmι (fun ι108 e_ι108 => ?_)
                  exact x_ireturn DX12_step_111 rfl ⟨by grind [cStep, rs], by grind [cStep, rsM], rfl, rfl⟩
                · refine x_iload DX12_step_89 rfl ?_
                  refine x_bipush 60 DX12_step_91 (by decide) ?_
                  refine x_icmp_gt 105 DX12_step_93 (by decide) (fun c_93 => ?_) (fun c_93 => ?_)
                  · refine x_aload_n 0 DX12_step_105 rfl rfl ?_
                    refine x_bipush (-6) DX12_step_106 (by decide) ?_
                    refine x_Ve (ci := 12) (av := [vI (-6)]) (rest := []) (st' := [vI (-6)]) 0 0 DX12_step_108 L12_120 rfl rfl rfl rfl rfl ⟨nle rfl, nle rfl, nle rfl⟩ ⟨rfl, nle rfl⟩ ⟨rfl, nle rfl⟩ (m_refuse K (-6) ι ρ Λ hF ⟨by decide, by decide⟩) rfl ?_
                    refine x_nmι (fun ι108 e_ι108 => ?_)
                    exact x_ireturn DX12_step_111 rfl ⟨by grind [cStep, rs], by grind [cStep, rsM], rfl, rfl⟩
                  · refine x_aload_n 0 DX12_step_96 rfl rfl ?_
                    refine x_geti (v := (nI ns)) 8 DX12_step_97 (Or.inl F12_216) rfl rfl hS ?_
                    refine x_bipush 12 DX12_step_100 (by decide) ?_
                    refine x_icmp_ne 112 DX12_step_102 (by decide) (fun c_102 => ?_) (fun c_102 => ?_)
                    · refine x_aload_n 0 DX12_step_112 rfl rfl ?_
                      refine x_getr 33 (some 66) DX12_step_113 (Or.inr F12_86) rfl rfl (hF.1 40 33 66 rfl) ?_
                      refine x_aload_n 0 DX12_step_116 rfl rfl ?_
                      refine x_geti (v := (nI ns)) 8 DX12_step_117 (Or.inl F12_216) rfl rfl hS ?_
                      refine x_iload_n 1 DX12_step_120 rfl rfl ?_
                      refine x_iast ns (nI_cl1 (by omega)) DX12_step_121 rfl (gIn.fx hF (c := 66) (n := 12) rfl (gIn_nI (lt_lit (x := 12) rfl (by assumption) hs) (by omega))) (fun ι121 e_ι121 => ?_)
                      refine x_aload_n 0 DX12_step_122 rfl rfl ?_
                      refine x_getr 34 (some 67) DX12_step_123 (Or.inr F12_89) rfl rfl (hF.1 40 34 67 rfl) ?_
                      refine x_aload_n 0 DX12_step_126 rfl rfl ?_
                      refine x_geti (v := (nI ns)) 8 DX12_step_127 (Or.inl F12_216) rfl rfl ((rd1 e_ι121 (by decide)).trans hS) ?_
                      refine x_iload_n 1 DX12_step_130 rfl rfl ?_
                      refine x_iconst 2 DX12_step_131 (by decide) ?_
                      refine x_icmp_ne 142 DX12_step_132 (by decide) (fun c_132 => ?_) (fun c_132 => False.elim (by grind))
                      refine x_iload_n 2 DX12_step_142 rfl rfl ?_
                      refine x_iast ns (nI_cl1 (by omega)) DX12_step_143 rfl (gIn.fx hF (c := 67) (n := 12) rfl (gIn_nI (lt_lit (x := 12) rfl (by assumption) hs) (by omega))) (fun ι143 e_ι143 => ?_)
                      refine x_aload_n 0 DX12_step_144 rfl rfl ?_
                      refine x_getr 35 (some 68) DX12_step_145 (Or.inr F12_92) rfl rfl (hF.1 40 35 68 rfl) ?_
                      refine x_aload_n 0 DX12_step_148 rfl rfl ?_
                      refine x_geti (v := (nI ns)) 8 DX12_step_149 (Or.inl F12_216) rfl rfl (((rd1 e_ι143 (by decide)).trans (rd1 e_ι121 (by decide))).trans hS) ?_
                      refine x_iload_n 3 DX12_step_152 rfl rfl ?_
                      refine x_iast ns (nI_cl1 (by omega)) DX12_step_153 rfl (gIn.fx hF (c := 68) (n := 12) rfl (gIn_nI (lt_lit (x := 12) rfl (by assumption) hs) (by omega))) (fun ι153 e_ι153 => ?_)
                      refine x_aload_n 0 DX12_step_154 rfl rfl ?_
                      refine x_getr 36 (some 69) DX12_step_155 (Or.inr F12_95) rfl rfl (hF.1 40 36 69 rfl) ?_
                      refine x_aload_n 0 DX12_step_158 rfl rfl ?_
                      refine x_geti (v := (nI ns)) 8 DX12_step_159 (Or.inl F12_216) rfl rfl ((((rd1 e_ι153 (by decide)).trans (rd1 e_ι143 (by decide))).trans (rd1 e_ι121 (by decide))).trans hS) ?_
                      refine x_iload DX12_step_162 rfl ?_
                      refine x_iast ns (nI_cl1 (by omega)) DX12_step_164 rfl (gIn.fx hF (c := 69) (n := 12) rfl (gIn_nI (lt_lit (x := 12) rfl (by assumption) hs) (by omega))) (fun ι164 e_ι164 => ?_)
                      refine x_aload_n 0 DX12_step_165 rfl rfl ?_
                      refine x_getr 37 (some 70) DX12_step_166 (Or.inr F12_98) rfl rfl (hF.1 40 37 70 rfl) ?_
                      refine x_aload_n 0 DX12_step_169 rfl rfl ?_
                      refine x_geti (v := (nI ns)) 8 DX12_step_170 (Or.inl F12_216) rfl rfl (((((rd1 e_ι164 (by decide)).trans (rd1 e_ι153 (by decide))).trans (rd1 e_ι143 (by decide))).trans (rd1 e_ι121 (by decide))).trans hS) ?_
                      refine x_iload DX12_step_173 rfl ?_
                      refine x_iast ns (nI_cl1 (by omega)) DX12_step_175 rfl (gIn.fx hF (c := 70) (n := 12) rfl (gIn_nI (lt_lit (x := 12) rfl (by assumption) hs) (by omega))) (fun ι175 e_ι175 => ?_)
                      refine x_aload_n 0 DX12_step_176 rfl rfl ?_
                      refine x_dup DX12_step_177 ?_
                      refine x_geti (v := (nI ns)) 8 DX12_step_178 (Or.inl F12_216) rfl rfl ((((((rd1 e_ι175 (by decide)).trans (rd1 e_ι164 (by decide))).trans (rd1 e_ι153 (by decide))).trans (rd1 e_ι143 (by decide))).trans (rd1 e_ι121 (by decide))).trans hS) ?_
                      refine x_iconst 1 DX12_step_181 (by decide) ?_
                      refine x_iadd DX12_step_182 ?_
                      refine x_puti 8 DX12_step_183 F12_216 rfl (Or.inl rfl) rfl (fun ι183 e_ι183 => ?_)
                      refine x_aload_n 0 DX12_step_186 rfl rfl ?_
                      refine x_geti (v := ((nI ns) + 1)) 8 DX12_step_187 (Or.inl F12_216) rfl rfl (rdv e_ι183) ?_
                      refine x_iconst 1 DX12_step_190 (by decide) ?_
                      refine x_isub DX12_step_191 ?_
                      exact x_ireturn DX12_step_192 rfl ⟨by rw [Int32.add_sub_cancel]; grind [cStep, rs], by subst_vars; grind [rsM, cStep, mStep], rfl, rfl⟩
                    · refine x_aload_n 0 DX12_step_105 rfl rfl ?_
                      refine x_bipush (-6) DX12_step_106 (by decide) ?_
                      refine x_Ve (ci := 12) (av := [vI (-6)]) (rest := []) (st' := [vI (-6)]) 0 0 DX12_step_108 L12_120 rfl rfl rfl rfl rfl ⟨nle rfl, nle rfl, nle rfl⟩ ⟨rfl, nle rfl⟩ ⟨rfl, nle rfl⟩ (m_refuse K (-6) ι ρ Λ hF ⟨by decide, by decide⟩) rfl ?_
                      refine x_nmι (fun ι108 e_ι108 => ?_)
                      exact x_ireturn DX12_step_111 rfl ⟨by grind [cStep, rs], by grind [cStep, rsM], rfl, rfl⟩
              · refine x_aload_n 0 DX12_step_76 rfl rfl ?_
                refine x_bipush (-4) DX12_step_77 (by decide) ?_
                refine x_Ve (ci := 12) (av := [vI (-4)]) (rest := []) (st' := [vI (-4)]) 0 0 DX12_step_79 L12_120 rfl rfl rfl rfl rfl ⟨nle rfl, nle rfl, nle rfl⟩ ⟨rfl, nle rfl⟩ ⟨rfl, nle rfl⟩ (m_refuse K (-4) ι ρ Λ hF ⟨by decide, by decide⟩) rfl ?_
                refine x_nmι (fun ι79 e_ι79 => ?_)
                exact x_ireturn DX12_step_82 rfl ⟨by grind [cStep, rs], by grind [cStep, rsM], rfl, rfl⟩
          · refine x_aload_n 0 DX12_step_59 rfl rfl ?_
            refine x_iconst (-1) DX12_step_60 (by decide) ?_
            refine x_Ve (ci := 12) (av := [vI (-1)]) (rest := []) (st' := [vI (-1)]) 0 0 DX12_step_61 L12_120 rfl rfl rfl rfl rfl ⟨nle rfl, nle rfl, nle rfl⟩ ⟨rfl, nle rfl⟩ ⟨rfl, nle rfl⟩ (m_refuse K (-1) ι ρ Λ hF ⟨by decide, by decide⟩) rfl ?_
            refine x_nmι (fun ι61 e_ι61 => ?_)
            exact x_ireturn DX12_step_64 rfl ⟨by grind [cStep, rs], by grind [cStep, rsM], rfl, rfl⟩
    · refine x_iload_n 2 DX12_step_20 rfl rfl ?_
      refine x_sipush 600 DX12_step_21 (by decide) ?_
      refine x_Se (av := [vI arg, vI 600]) (rest := []) (st' := [vI (b2i (0 ≤ arg ∧ arg < 600))]) 0 0 DX12_step_24 L12_124 rfl rfl ⟨nle rfl, nle rfl, nle rfl⟩ ⟨rfl, nle rfl⟩ ⟨rfl, nle rfl⟩ (m_isIn K arg 600 ι ρ Λ) rfl ?_
      refine x_goto 36 DX12_step_27 (by decide) ?_
      refine x_istore (lv' := [some (vR 40), some (vI kind), some (vI arg), some (vI d), some (vI n), some (vI a), some (vI (b2i (0 ≤ arg ∧ arg < 600)))]) DX12_step_36 ⟨nlt rfl, nlt rfl⟩ rfl ?_
      refine x_iload DX12_step_38 rfl ?_
      refine x_if_eq_b 59 DX12_step_40 (by decide) (fun c_40 => ?_) (fun c_40 => ?_)
      · refine x_aload_n 0 DX12_step_59 rfl rfl ?_
        refine x_iconst (-1) DX12_step_60 (by decide) ?_
        refine x_Ve (ci := 12) (av := [vI (-1)]) (rest := []) (st' := [vI (-1)]) 0 0 DX12_step_61 L12_120 rfl rfl rfl rfl rfl ⟨nle rfl, nle rfl, nle rfl⟩ ⟨rfl, nle rfl⟩ ⟨rfl, nle rfl⟩ (m_refuse K (-1) ι ρ Λ hF ⟨by decide, by decide⟩) rfl ?_
        refine x_nmι (fun ι61 e_ι61 => ?_)
        exact x_ireturn DX12_step_64 rfl ⟨by grind [cStep, rs], by grind [cStep, rsM], rfl, rfl⟩
      · refine x_iload DX12_step_43 rfl ?_
        refine x_if_lt 59 DX12_step_45 (by decide) (fun c_45 => ?_) (fun c_45 => ?_)
        · refine x_aload_n 0 DX12_step_59 rfl rfl ?_
          refine x_iconst (-1) DX12_step_60 (by decide) ?_
          refine x_Ve (ci := 12) (av := [vI (-1)]) (rest := []) (st' := [vI (-1)]) 0 0 DX12_step_61 L12_120 rfl rfl rfl rfl rfl ⟨nle rfl, nle rfl, nle rfl⟩ ⟨rfl, nle rfl⟩ ⟨rfl, nle rfl⟩ (m_refuse K (-1) ι ρ Λ hF ⟨by decide, by decide⟩) rfl ?_
          refine x_nmι (fun ι61 e_ι61 => ?_)
          exact x_ireturn DX12_step_64 rfl ⟨by grind [cStep, rs], by grind [cStep, rsM], rfl, rfl⟩
        · refine x_iload DX12_step_48 rfl ?_
          refine x_iconst 1 DX12_step_50 (by decide) ?_
          refine x_aload_n 0 DX12_step_51 rfl rfl ?_
          refine x_geti (v := (nI ns)) 8 DX12_step_52 (Or.inl F12_216) rfl rfl hS ?_
          refine x_ishl DX12_step_55 ?_
          refine x_icmp_lt 65 DX12_step_56 (by decide) (fun c_56 => ?_) (fun c_56 => ?_)
          · refine x_iload_n 3 DX12_step_65 rfl rfl ?_
            refine x_iconst 1 DX12_step_66 (by decide) ?_
            refine x_icmp_lt 76 DX12_step_67 (by decide) (fun c_67 => ?_) (fun c_67 => ?_)
            · refine x_aload_n 0 DX12_step_76 rfl rfl ?_
              refine x_bipush (-4) DX12_step_77 (by decide) ?_
              refine x_Ve (ci := 12) (av := [vI (-4)]) (rest := []) (st' := [vI (-4)]) 0 0 DX12_step_79 L12_120 rfl rfl rfl rfl rfl ⟨nle rfl, nle rfl, nle rfl⟩ ⟨rfl, nle rfl⟩ ⟨rfl, nle rfl⟩ (m_refuse K (-4) ι ρ Λ hF ⟨by decide, by decide⟩) rfl ?_
              refine x_nmι (fun ι79 e_ι79 => ?_)
              exact x_ireturn DX12_step_82 rfl ⟨by grind [cStep, rs], by grind [cStep, rsM], rfl, rfl⟩
            · refine x_iload DX12_step_70 rfl ?_
              refine x_iconst 1 DX12_step_72 (by decide) ?_
              refine x_icmp_ge 83 DX12_step_73 (by decide) (fun c_73 => ?_) (fun c_73 => ?_)
              · refine x_iload_n 3 DX12_step_83 rfl rfl ?_
                refine x_bipush 9 DX12_step_84 (by decide) ?_
                refine x_icmp_gt 105 DX12_step_86 (by decide) (fun c_86 => ?_) (fun c_86 => ?_)
                · refine x_aload_n 0 DX12_step_105 rfl rfl ?_
                  refine x_bipush (-6) DX12_step_106 (by decide) ?_
                  refine x_Ve (ci := 12) (av := [vI (-6)]) (rest := []) (st' := [vI (-6)]) 0 0 DX12_step_108 L12_120 rfl rfl rfl rfl rfl ⟨nle rfl, nle rfl, nle rfl⟩ ⟨rfl, nle rfl⟩ ⟨rfl, nle rfl⟩ (m_refuse K (-6) ι ρ Λ hF ⟨by decide, by decide⟩) rfl ?_
                  refine x_nmι (fun ι108 e_ι108 => ?_)
                  exact x_ireturn DX12_step_111 rfl ⟨by grind [cStep, rs], by grind [cStep, rsM], rfl, rfl⟩
                · refine x_iload DX12_step_89 rfl ?_
                  refine x_bipush 60 DX12_step_91 (by decide) ?_
                  refine x_icmp_gt 105 DX12_step_93 (by decide) (fun c_93 => ?_) (fun c_93 => ?_)
                  · refine x_aload_n 0 DX12_step_105 rfl rfl ?_
                    refine x_bipush (-6) DX12_step_106 (by decide) ?_
                    refine x_Ve (ci := 12) (av := [vI (-6)]) (rest := []) (st' := [vI (-6)]) 0 0 DX12_step_108 L12_120 rfl rfl rfl rfl rfl ⟨nle rfl, nle rfl, nle rfl⟩ ⟨rfl, nle rfl⟩ ⟨rfl, nle rfl⟩ (m_refuse K (-6) ι ρ Λ hF ⟨by decide, by decide⟩) rfl ?_
                    refine x_nmι (fun ι108 e_ι108 => ?_)
                    exact x_ireturn DX12_step_111 rfl ⟨by grind [cStep, rs], by grind [cStep, rsM], rfl, rfl⟩
                  · refine x_aload_n 0 DX12_step_96 rfl rfl ?_
                    refine x_geti (v := (nI ns)) 8 DX12_step_97 (Or.inl F12_216) rfl rfl hS ?_
                    refine x_bipush 12 DX12_step_100 (by decide) ?_
                    refine x_icmp_ne 112 DX12_step_102 (by decide) (fun c_102 => ?_) (fun c_102 => ?_)
                    · refine x_aload_n 0 DX12_step_112 rfl rfl ?_
                      refine x_getr 33 (some 66) DX12_step_113 (Or.inr F12_86) rfl rfl (hF.1 40 33 66 rfl) ?_
                      refine x_aload_n 0 DX12_step_116 rfl rfl ?_
                      refine x_geti (v := (nI ns)) 8 DX12_step_117 (Or.inl F12_216) rfl rfl hS ?_
                      refine x_iload_n 1 DX12_step_120 rfl rfl ?_
                      refine x_iast ns (nI_cl1 (by omega)) DX12_step_121 rfl (gIn.fx hF (c := 66) (n := 12) rfl (gIn_nI (lt_lit (x := 12) rfl (by assumption) hs) (by omega))) (fun ι121 e_ι121 => ?_)
                      refine x_aload_n 0 DX12_step_122 rfl rfl ?_
                      refine x_getr 34 (some 67) DX12_step_123 (Or.inr F12_89) rfl rfl (hF.1 40 34 67 rfl) ?_
                      refine x_aload_n 0 DX12_step_126 rfl rfl ?_
                      refine x_geti (v := (nI ns)) 8 DX12_step_127 (Or.inl F12_216) rfl rfl ((rd1 e_ι121 (by decide)).trans hS) ?_
                      refine x_iload_n 1 DX12_step_130 rfl rfl ?_
                      refine x_iconst 2 DX12_step_131 (by decide) ?_
                      refine x_icmp_ne 142 DX12_step_132 (by decide) (fun c_132 => False.elim (by grind)) (fun c_132 => ?_)
                      refine x_iload_n 2 DX12_step_135 rfl rfl ?_
                      refine x_bipush 100 DX12_step_136 (by decide) ?_
                      refine x_idiv DX12_step_138 (by decide) ?_
                      refine x_goto 143 DX12_step_139 (by decide) ?_
                      refine x_iast ns (nI_cl1 (by omega)) DX12_step_143 rfl (gIn.fx hF (c := 67) (n := 12) rfl (gIn_nI (lt_lit (x := 12) rfl (by assumption) hs) (by omega))) (fun ι143 e_ι143 => ?_)
                      refine x_aload_n 0 DX12_step_144 rfl rfl ?_
                      refine x_getr 35 (some 68) DX12_step_145 (Or.inr F12_92) rfl rfl (hF.1 40 35 68 rfl) ?_
                      refine x_aload_n 0 DX12_step_148 rfl rfl ?_
                      refine x_geti (v := (nI ns)) 8 DX12_step_149 (Or.inl F12_216) rfl rfl (((rd1 e_ι143 (by decide)).trans (rd1 e_ι121 (by decide))).trans hS) ?_
                      refine x_iload_n 3 DX12_step_152 rfl rfl ?_
                      refine x_iast ns (nI_cl1 (by omega)) DX12_step_153 rfl (gIn.fx hF (c := 68) (n := 12) rfl (gIn_nI (lt_lit (x := 12) rfl (by assumption) hs) (by omega))) (fun ι153 e_ι153 => ?_)
                      refine x_aload_n 0 DX12_step_154 rfl rfl ?_
                      refine x_getr 36 (some 69) DX12_step_155 (Or.inr F12_95) rfl rfl (hF.1 40 36 69 rfl) ?_
                      refine x_aload_n 0 DX12_step_158 rfl rfl ?_
                      refine x_geti (v := (nI ns)) 8 DX12_step_159 (Or.inl F12_216) rfl rfl ((((rd1 e_ι153 (by decide)).trans (rd1 e_ι143 (by decide))).trans (rd1 e_ι121 (by decide))).trans hS) ?_
                      refine x_iload DX12_step_162 rfl ?_
                      refine x_iast ns (nI_cl1 (by omega)) DX12_step_164 rfl (gIn.fx hF (c := 69) (n := 12) rfl (gIn_nI (lt_lit (x := 12) rfl (by assumption) hs) (by omega))) (fun ι164 e_ι164 => ?_)
                      refine x_aload_n 0 DX12_step_165 rfl rfl ?_
                      refine x_getr 37 (some 70) DX12_step_166 (Or.inr F12_98) rfl rfl (hF.1 40 37 70 rfl) ?_
                      refine x_aload_n 0 DX12_step_169 rfl rfl ?_
                      refine x_geti (v := (nI ns)) 8 DX12_step_170 (Or.inl F12_216) rfl rfl (((((rd1 e_ι164 (by decide)).trans (rd1 e_ι153 (by decide))).trans (rd1 e_ι143 (by decide))).trans (rd1 e_ι121 (by decide))).trans hS) ?_
                      refine x_iload DX12_step_173 rfl ?_
                      refine x_iast ns (nI_cl1 (by omega)) DX12_step_175 rfl (gIn.fx hF (c := 70) (n := 12) rfl (gIn_nI (lt_lit (x := 12) rfl (by assumption) hs) (by omega))) (fun ι175 e_ι175 => ?_)
                      refine x_aload_n 0 DX12_step_176 rfl rfl ?_
                      refine x_dup DX12_step_177 ?_
                      refine x_geti (v := (nI ns)) 8 DX12_step_178 (Or.inl F12_216) rfl rfl ((((((rd1 e_ι175 (by decide)).trans (rd1 e_ι164 (by decide))).trans (rd1 e_ι153 (by decide))).trans (rd1 e_ι143 (by decide))).trans (rd1 e_ι121 (by decide))).trans hS) ?_
                      refine x_iconst 1 DX12_step_181 (by decide) ?_
                      refine x_iadd DX12_step_182 ?_
                      refine x_puti 8 DX12_step_183 F12_216 rfl (Or.inl rfl) rfl (fun ι183 e_ι183 => ?_)
                      refine x_aload_n 0 DX12_step_186 rfl rfl ?_
                      refine x_geti (v := ((nI ns) + 1)) 8 DX12_step_187 (Or.inl F12_216) rfl rfl (rdv e_ι183) ?_
                      refine x_iconst 1 DX12_step_190 (by decide) ?_
                      refine x_isub DX12_step_191 ?_
                      exact x_ireturn DX12_step_192 rfl ⟨by rw [Int32.add_sub_cancel]; grind [cStep, rs], by subst_vars; grind [rsM, cStep, mStep], rfl, rfl⟩
                    · refine x_aload_n 0 DX12_step_105 rfl rfl ?_
                      refine x_bipush (-6) DX12_step_106 (by decide) ?_
                      refine x_Ve (ci := 12) (av := [vI (-6)]) (rest := []) (st' := [vI (-6)]) 0 0 DX12_step_108 L12_120 rfl rfl rfl rfl rfl ⟨nle rfl, nle rfl, nle rfl⟩ ⟨rfl, nle rfl⟩ ⟨rfl, nle rfl⟩ (m_refuse K (-6) ι ρ Λ hF ⟨by decide, by decide⟩) rfl ?_
                      refine x_nmι (fun ι108 e_ι108 => ?_)
                      exact x_ireturn DX12_step_111 rfl ⟨by grind [cStep, rs], by grind [cStep, rsM], rfl, rfl⟩
              · refine x_aload_n 0 DX12_step_76 rfl rfl ?_
                refine x_bipush (-4) DX12_step_77 (by decide) ?_
                refine x_Ve (ci := 12) (av := [vI (-4)]) (rest := []) (st' := [vI (-4)]) 0 0 DX12_step_79 L12_120 rfl rfl rfl rfl rfl ⟨nle rfl, nle rfl, nle rfl⟩ ⟨rfl, nle rfl⟩ ⟨rfl, nle rfl⟩ (m_refuse K (-4) ι ρ Λ hF ⟨by decide, by decide⟩) rfl ?_
                refine x_nmι (fun ι79 e_ι79 => ?_)
                exact x_ireturn DX12_step_82 rfl ⟨by grind [cStep, rs], by grind [cStep, rsM], rfl, rfl⟩
          · refine x_aload_n 0 DX12_step_59 rfl rfl ?_
            refine x_iconst (-1) DX12_step_60 (by decide) ?_
            refine x_Ve (ci := 12) (av := [vI (-1)]) (rest := []) (st' := [vI (-1)]) 0 0 DX12_step_61 L12_120 rfl rfl rfl rfl rfl ⟨nle rfl, nle rfl, nle rfl⟩ ⟨rfl, nle rfl⟩ ⟨rfl, nle rfl⟩ (m_refuse K (-1) ι ρ Λ hF ⟨by decide, by decide⟩) rfl ?_
            refine x_nmι (fun ι61 e_ι61 => ?_)
            exact x_ireturn DX12_step_64 rfl ⟨by grind [cStep, rs], by grind [cStep, rsM], rfl, rfl⟩
  · refine x_aload_n 0 DX12_step_8 rfl rfl ?_
    refine x_bipush (-2) DX12_step_9 (by decide) ?_
    refine x_Ve (ci := 12) (av := [vI (-2)]) (rest := []) (st' := [vI (-2)]) 0 0 DX12_step_11 L12_120 rfl rfl rfl rfl rfl ⟨nle rfl, nle rfl, nle rfl⟩ ⟨rfl, nle rfl⟩ ⟨rfl, nle rfl⟩ (m_refuse K (-2) ι ρ Λ hF ⟨by decide, by decide⟩) rfl ?_
    refine x_nmι (fun ι11 e_ι11 => ?_)
    exact x_ireturn DX12_step_14 rfl ⟨by grind [cStep, rs], by grind [cStep, rsM], rfl, rfl⟩
theorem m_clear (K : gK)  (ι : gIm) (ρ : gRm) (Λ : gLm) (hF : gFix ρ Λ) : gCe K 1 0 0 jX12_clear [vR 40] ι ρ Λ (some (vI (ι 40 8))) (up2 ι 40 8 0) ρ Λ := by
  refine gC_of (by decide) (nle rfl) ?_
  refine x_aload_n 0 DX12_clear_0 rfl rfl ?_
  refine x_geti (v := (ι 40 8)) 8 DX12_clear_1 (Or.inl F12_216) rfl rfl rfl ?_
  refine x_istore_n 1 (lv' := [some (vR 40), some (vI (ι 40 8))]) DX12_clear_4 rfl ⟨nlt rfl, nlt rfl⟩ rfl ?_
  refine x_aload_n 0 DX12_clear_5 rfl rfl ?_
  refine x_iconst 0 DX12_clear_6 (by decide) ?_
  refine x_puti 8 DX12_clear_7 F12_216 rfl (Or.inl rfl) rfl (fun ι7 e_ι7 => ?_)
  refine x_iload_n 1 DX12_clear_10 rfl rfl ?_
  exact x_ireturn DX12_clear_11 rfl ⟨rfl, by assumption, rfl, rfl⟩
theorem m_person (K : gK) (p b : Int32) (ι : gIm) (ρ : gRm) (Λ : gLm) (hF : gFix ρ Λ) (np : Nat) (hP : ι 40 9 = nI np) (hp : np ≤ 30) : gCe K 2 0 0 jX12_person [vR 40, vI p, vI b] ι ρ Λ (some (vI (rs (cPerson p b (nI np) (ι 75 p.toNatClampNeg)) (nI np)))) (rsM (cPerson p b (nI np) (ι 75 p.toNatClampNeg)) 41 ι (mPerson ι np p b)) ρ Λ := by
  refine gC_of (by decide) (nle rfl) ?_
  refine x_iload_n 1 DX12_person_0 rfl rfl ?_
  refine x_iconst (-1) DX12_person_1 (by decide) ?_
  refine x_icmp_eq 22 DX12_person_2 (by decide) (fun c_2 => ?_) (fun c_2 => ?_)
  · refine x_iload_n 2 DX12_person_22 rfl rfl ?_
    refine x_bipush (-60) DX12_person_23 (by decide) ?_
    refine x_icmp_ge 35 DX12_person_25 (by decide) (fun c_25 => ?_) (fun c_25 => ?_)
    · refine x_iload_n 2 DX12_person_35 rfl rfl ?_
      refine x_bipush 60 DX12_person_36 (by decide) ?_
      refine x_icmp_gt 50 DX12_person_38 (by decide) (fun c_38 => ?_) (fun c_38 => ?_)
      · refine x_aload_n 0 DX12_person_50 rfl rfl ?_
        refine x_bipush (-6) DX12_person_51 (by decide) ?_
        refine x_Ve (ci := 12) (av := [vI (-6)]) (rest := []) (st' := [vI (-6)]) 0 0 DX12_person_53 L12_120 rfl rfl rfl rfl rfl ⟨nle rfl, nle rfl, nle rfl⟩ ⟨rfl, nle rfl⟩ ⟨rfl, nle rfl⟩ (m_refuse K (-6) ι ρ Λ hF ⟨by decide, by decide⟩) rfl ?_
        refine x_nmι (fun ι53 e_ι53 => ?_)
        exact x_ireturn DX12_person_56 rfl ⟨by grind [cPerson, rs], by grind [cPerson, rsM], rfl, rfl⟩
      · refine x_aload_n 0 DX12_person_41 rfl rfl ?_
        refine x_geti (v := (nI np)) 9 DX12_person_42 (Or.inl F12_235) rfl rfl hP ?_
        refine x_bipush 30 DX12_person_45 (by decide) ?_
        refine x_icmp_ne 57 DX12_person_47 (by decide) (fun c_47 => ?_) (fun c_47 => ?_)
        · refine x_iload_n 1 DX12_person_57 rfl rfl ?_
          refine x_if_lt 78 DX12_person_58 (by decide) (fun c_58 => ?_) (fun c_58 => False.elim (by grind))
          refine x_aload_n 0 DX12_person_78 rfl rfl ?_
          refine x_getr 42 (some 74) DX12_person_79 (Or.inr F12_110) rfl rfl (hF.1 40 42 74 rfl) ?_
          refine x_aload_n 0 DX12_person_82 rfl rfl ?_
          refine x_geti (v := (nI np)) 9 DX12_person_83 (Or.inl F12_235) rfl rfl hP ?_
          refine x_iload_n 1 DX12_person_86 rfl rfl ?_
          refine x_iast np (nI_cl1 (by omega)) DX12_person_87 rfl (gIn.fx hF (c := 74) (n := 30) rfl (gIn_nI (lt_lit (x := 30) rfl (by assumption) hp) (by omega))) (fun ι87 e_ι87 => ?_)
          refine x_aload_n 0 DX12_person_88 rfl rfl ?_
          refine x_getr 43 (some 75) DX12_person_89 (Or.inr F12_113) rfl rfl (hF.1 40 43 75 rfl) ?_
          refine x_aload_n 0 DX12_person_92 rfl rfl ?_
          refine x_geti (v := (nI np)) 9 DX12_person_93 (Or.inl F12_235) rfl rfl ((rd1 e_ι87 (by decide)).trans hP) ?_
          refine x_iload_n 2 DX12_person_96 rfl rfl ?_
          refine x_iast np (nI_cl1 (by omega)) DX12_person_97 rfl (gIn.fx hF (c := 75) (n := 30) rfl (gIn_nI (lt_lit (x := 30) rfl (by assumption) hp) (by omega))) (fun ι97 e_ι97 => ?_)
          refine x_aload_n 0 DX12_person_98 rfl rfl ?_
          refine x_getr 44 (some 76) DX12_person_99 (Or.inr F12_116) rfl rfl (hF.1 40 44 76 rfl) ?_
          refine x_aload_n 0 DX12_person_102 rfl rfl ?_
          refine x_geti (v := (nI np)) 9 DX12_person_103 (Or.inl F12_235) rfl rfl (((rd1 e_ι97 (by decide)).trans (rd1 e_ι87 (by decide))).trans hP) ?_
          refine x_iconst 1 DX12_person_106 (by decide) ?_
          refine x_zast np (nI_cl1 (by omega)) DX12_person_107 rfl (gIn.fx hF (c := 76) (n := 30) rfl (gIn_nI (lt_lit (x := 30) rfl (by assumption) hp) (by omega))) (Or.inr rfl) (fun ι107 e_ι107 => ?_)
          refine x_aload_n 0 DX12_person_108 rfl rfl ?_
          refine x_dup DX12_person_109 ?_
          refine x_geti (v := (nI np)) 9 DX12_person_110 (Or.inl F12_235) rfl rfl ((((rd1 e_ι107 (by decide)).trans (rd1 e_ι97 (by decide))).trans (rd1 e_ι87 (by decide))).trans hP) ?_
          refine x_iconst 1 DX12_person_113 (by decide) ?_
          refine x_iadd DX12_person_114 ?_
          refine x_puti 9 DX12_person_115 F12_235 rfl (Or.inl rfl) rfl (fun ι115 e_ι115 => ?_)
          refine x_aload_n 0 DX12_person_118 rfl rfl ?_
          refine x_geti (v := ((nI np) + 1)) 9 DX12_person_119 (Or.inl F12_235) rfl rfl (rdv e_ι115) ?_
          refine x_iconst 1 DX12_person_122 (by decide) ?_
          refine x_isub DX12_person_123 ?_
          exact x_ireturn DX12_person_124 rfl ⟨by rw [Int32.add_sub_cancel]; grind [cPerson, rs], by subst_vars; grind [rsM, cPerson, mPerson], rfl, rfl⟩
        · refine x_aload_n 0 DX12_person_50 rfl rfl ?_
          refine x_bipush (-6) DX12_person_51 (by decide) ?_
          refine x_Ve (ci := 12) (av := [vI (-6)]) (rest := []) (st' := [vI (-6)]) 0 0 DX12_person_53 L12_120 rfl rfl rfl rfl rfl ⟨nle rfl, nle rfl, nle rfl⟩ ⟨rfl, nle rfl⟩ ⟨rfl, nle rfl⟩ (m_refuse K (-6) ι ρ Λ hF ⟨by decide, by decide⟩) rfl ?_
          refine x_nmι (fun ι53 e_ι53 => ?_)
          exact x_ireturn DX12_person_56 rfl ⟨by grind [cPerson, rs], by grind [cPerson, rsM], rfl, rfl⟩
    · refine x_aload_n 0 DX12_person_28 rfl rfl ?_
      refine x_bipush (-4) DX12_person_29 (by decide) ?_
      refine x_Ve (ci := 12) (av := [vI (-4)]) (rest := []) (st' := [vI (-4)]) 0 0 DX12_person_31 L12_120 rfl rfl rfl rfl rfl ⟨nle rfl, nle rfl, nle rfl⟩ ⟨rfl, nle rfl⟩ ⟨rfl, nle rfl⟩ (m_refuse K (-4) ι ρ Λ hF ⟨by decide, by decide⟩) rfl ?_
      refine x_nmι (fun ι31 e_ι31 => ?_)
      exact x_ireturn DX12_person_34 rfl ⟨by grind [cPerson, rs], by grind [cPerson, rsM], rfl, rfl⟩
  · refine x_iload_n 1 DX12_person_5 rfl rfl ?_
    refine x_aload_n 0 DX12_person_6 rfl rfl ?_
    refine x_geti (v := (nI np)) 9 DX12_person_7 (Or.inl F12_235) rfl rfl hP ?_
    refine x_Se (av := [vI p, vI (nI np)]) (rest := []) (st' := [vI (b2i (0 ≤ p ∧ p < (nI np)))]) 0 0 DX12_person_10 L12_124 rfl rfl ⟨nle rfl, nle rfl, nle rfl⟩ ⟨rfl, nle rfl⟩ ⟨rfl, nle rfl⟩ (m_isIn K p (nI np) ι ρ Λ) rfl ?_
    refine x_if_ne_b 22 DX12_person_13 (by decide) (fun c_13 => ?_) (fun c_13 => ?_)
    · refine x_iload_n 2 DX12_person_22 rfl rfl ?_
      refine x_bipush (-60) DX12_person_23 (by decide) ?_
      refine x_icmp_ge 35 DX12_person_25 (by decide) (fun c_25 => ?_) (fun c_25 => ?_)
      · refine x_iload_n 2 DX12_person_35 rfl rfl ?_
        refine x_bipush 60 DX12_person_36 (by decide) ?_
        refine x_icmp_gt 50 DX12_person_38 (by decide) (fun c_38 => ?_) (fun c_38 => ?_)
        · refine x_aload_n 0 DX12_person_50 rfl rfl ?_
          refine x_bipush (-6) DX12_person_51 (by decide) ?_
          refine x_Ve (ci := 12) (av := [vI (-6)]) (rest := []) (st' := [vI (-6)]) 0 0 DX12_person_53 L12_120 rfl rfl rfl rfl rfl ⟨nle rfl, nle rfl, nle rfl⟩ ⟨rfl, nle rfl⟩ ⟨rfl, nle rfl⟩ (m_refuse K (-6) ι ρ Λ hF ⟨by decide, by decide⟩) rfl ?_
          refine x_nmι (fun ι53 e_ι53 => ?_)
          exact x_ireturn DX12_person_56 rfl ⟨by grind [cPerson, rs], by grind [cPerson, rsM], rfl, rfl⟩
        · refine x_aload_n 0 DX12_person_41 rfl rfl ?_
          refine x_geti (v := (nI np)) 9 DX12_person_42 (Or.inl F12_235) rfl rfl hP ?_
          refine x_bipush 30 DX12_person_45 (by decide) ?_
          refine x_icmp_ne 57 DX12_person_47 (by decide) (fun c_47 => ?_) (fun c_47 => ?_)
          · refine x_iload_n 1 DX12_person_57 rfl rfl ?_
            refine x_if_lt 78 DX12_person_58 (by decide) (fun c_58 => ?_) (fun c_58 => ?_)
            · refine x_aload_n 0 DX12_person_78 rfl rfl ?_
              refine x_getr 42 (some 74) DX12_person_79 (Or.inr F12_110) rfl rfl (hF.1 40 42 74 rfl) ?_
              refine x_aload_n 0 DX12_person_82 rfl rfl ?_
              refine x_geti (v := (nI np)) 9 DX12_person_83 (Or.inl F12_235) rfl rfl hP ?_
              refine x_iload_n 1 DX12_person_86 rfl rfl ?_
              refine x_iast np (nI_cl1 (by omega)) DX12_person_87 rfl (gIn.fx hF (c := 74) (n := 30) rfl (gIn_nI (lt_lit (x := 30) rfl (by assumption) hp) (by omega))) (fun ι87 e_ι87 => ?_)
              refine x_aload_n 0 DX12_person_88 rfl rfl ?_
              refine x_getr 43 (some 75) DX12_person_89 (Or.inr F12_113) rfl rfl (hF.1 40 43 75 rfl) ?_
              refine x_aload_n 0 DX12_person_92 rfl rfl ?_
              refine x_geti (v := (nI np)) 9 DX12_person_93 (Or.inl F12_235) rfl rfl ((rd1 e_ι87 (by decide)).trans hP) ?_
              refine x_iload_n 2 DX12_person_96 rfl rfl ?_
              refine x_iast np (nI_cl1 (by omega)) DX12_person_97 rfl (gIn.fx hF (c := 75) (n := 30) rfl (gIn_nI (lt_lit (x := 30) rfl (by assumption) hp) (by omega))) (fun ι97 e_ι97 => ?_)
              refine x_aload_n 0 DX12_person_98 rfl rfl ?_
              refine x_getr 44 (some 76) DX12_person_99 (Or.inr F12_116) rfl rfl (hF.1 40 44 76 rfl) ?_
              refine x_aload_n 0 DX12_person_102 rfl rfl ?_
              refine x_geti (v := (nI np)) 9 DX12_person_103 (Or.inl F12_235) rfl rfl (((rd1 e_ι97 (by decide)).trans (rd1 e_ι87 (by decide))).trans hP) ?_
              refine x_iconst 1 DX12_person_106 (by decide) ?_
              refine x_zast np (nI_cl1 (by omega)) DX12_person_107 rfl (gIn.fx hF (c := 76) (n := 30) rfl (gIn_nI (lt_lit (x := 30) rfl (by assumption) hp) (by omega))) (Or.inr rfl) (fun ι107 e_ι107 => ?_)
              refine x_aload_n 0 DX12_person_108 rfl rfl ?_
              refine x_dup DX12_person_109 ?_
              refine x_geti (v := (nI np)) 9 DX12_person_110 (Or.inl F12_235) rfl rfl ((((rd1 e_ι107 (by decide)).trans (rd1 e_ι97 (by decide))).trans (rd1 e_ι87 (by decide))).trans hP) ?_
              refine x_iconst 1 DX12_person_113 (by decide) ?_
              refine x_iadd DX12_person_114 ?_
              refine x_puti 9 DX12_person_115 F12_235 rfl (Or.inl rfl) rfl (fun ι115 e_ι115 => ?_)
              refine x_aload_n 0 DX12_person_118 rfl rfl ?_
              refine x_geti (v := ((nI np) + 1)) 9 DX12_person_119 (Or.inl F12_235) rfl rfl (rdv e_ι115) ?_
              refine x_iconst 1 DX12_person_122 (by decide) ?_
              refine x_isub DX12_person_123 ?_
              exact x_ireturn DX12_person_124 rfl ⟨by rw [Int32.add_sub_cancel]; grind [cPerson, rs], by subst_vars; grind [rsM, cPerson, mPerson], rfl, rfl⟩
            · refine x_iload_n 2 DX12_person_61 rfl rfl ?_
              refine x_aload_n 0 DX12_person_62 rfl rfl ?_
              refine x_getr 43 (some 75) DX12_person_63 (Or.inr F12_113) rfl rfl (hF.1 40 43 75 rfl) ?_
              refine x_iload_n 1 DX12_person_66 rfl rfl ?_
              refine x_iald (v := (ι 75 p.toNatClampNeg)) p.toNatClampNeg rfl DX12_person_67 rfl (gIn.fx hF (c := 75) (n := 30) rfl (gIn_nn (m := 30) (k := p) (n := np) (by first | assumption | exact pers_in (by assumption) (by assumption)) hp (by omega))) rfl ?_
              refine x_icmp_ge 78 DX12_person_68 (by decide) (fun c_68 => ?_) (fun c_68 => ?_)
              · refine x_aload_n 0 DX12_person_78 rfl rfl ?_
                refine x_getr 42 (some 74) DX12_person_79 (Or.inr F12_110) rfl rfl (hF.1 40 42 74 rfl) ?_
                refine x_aload_n 0 DX12_person_82 rfl rfl ?_
                refine x_geti (v := (nI np)) 9 DX12_person_83 (Or.inl F12_235) rfl rfl hP ?_
                refine x_iload_n 1 DX12_person_86 rfl rfl ?_
                refine x_iast np (nI_cl1 (by omega)) DX12_person_87 rfl (gIn.fx hF (c := 74) (n := 30) rfl (gIn_nI (lt_lit (x := 30) rfl (by assumption) hp) (by omega))) (fun ι87 e_ι87 => ?_)
                refine x_aload_n 0 DX12_person_88 rfl rfl ?_
                refine x_getr 43 (some 75) DX12_person_89 (Or.inr F12_113) rfl rfl (hF.1 40 43 75 rfl) ?_
                refine x_aload_n 0 DX12_person_92 rfl rfl ?_
                refine x_geti (v := (nI np)) 9 DX12_person_93 (Or.inl F12_235) rfl rfl ((rd1 e_ι87 (by decide)).trans hP) ?_
                refine x_iload_n 2 DX12_person_96 rfl rfl ?_
                refine x_iast np (nI_cl1 (by omega)) DX12_person_97 rfl (gIn.fx hF (c := 75) (n := 30) rfl (gIn_nI (lt_lit (x := 30) rfl (by assumption) hp) (by omega))) (fun ι97 e_ι97 => ?_)
                refine x_aload_n 0 DX12_person_98 rfl rfl ?_
                refine x_getr 44 (some 76) DX12_person_99 (Or.inr F12_116) rfl rfl (hF.1 40 44 76 rfl) ?_
                refine x_aload_n 0 DX12_person_102 rfl rfl ?_
                refine x_geti (v := (nI np)) 9 DX12_person_103 (Or.inl F12_235) rfl rfl (((rd1 e_ι97 (by decide)).trans (rd1 e_ι87 (by decide))).trans hP) ?_
                refine x_iconst 1 DX12_person_106 (by decide) ?_
                refine x_zast np (nI_cl1 (by omega)) DX12_person_107 rfl (gIn.fx hF (c := 76) (n := 30) rfl (gIn_nI (lt_lit (x := 30) rfl (by assumption) hp) (by omega))) (Or.inr rfl) (fun ι107 e_ι107 => ?_)
                refine x_aload_n 0 DX12_person_108 rfl rfl ?_
                refine x_dup DX12_person_109 ?_
                refine x_geti (v := (nI np)) 9 DX12_person_110 (Or.inl F12_235) rfl rfl ((((rd1 e_ι107 (by decide)).trans (rd1 e_ι97 (by decide))).trans (rd1 e_ι87 (by decide))).trans hP) ?_
                refine x_iconst 1 DX12_person_113 (by decide) ?_
                refine x_iadd DX12_person_114 ?_
                refine x_puti 9 DX12_person_115 F12_235 rfl (Or.inl rfl) rfl (fun ι115 e_ι115 => ?_)
                refine x_aload_n 0 DX12_person_118 rfl rfl ?_
                refine x_geti (v := ((nI np) + 1)) 9 DX12_person_119 (Or.inl F12_235) rfl rfl (rdv e_ι115) ?_
                refine x_iconst 1 DX12_person_122 (by decide) ?_
                refine x_isub DX12_person_123 ?_
                exact x_ireturn DX12_person_124 rfl ⟨by rw [Int32.add_sub_cancel]; grind [cPerson, rs], by subst_vars; grind [rsM, cPerson, mPerson], rfl, rfl⟩
              · refine x_aload_n 0 DX12_person_71 rfl rfl ?_
                refine x_bipush (-3) DX12_person_72 (by decide) ?_
                refine x_Ve (ci := 12) (av := [vI (-3)]) (rest := []) (st' := [vI (-3)]) 0 0 DX12_person_74 L12_120 rfl rfl rfl rfl rfl ⟨nle rfl, nle rfl, nle rfl⟩ ⟨rfl, nle rfl⟩ ⟨rfl, nle rfl⟩ (m_refuse K (-3) ι ρ Λ hF ⟨by decide, by decide⟩) rfl ?_
                refine x_nmι (fun ι74 e_ι74 => ?_)
                exact x_ireturn DX12_person_77 rfl ⟨by grind [cPerson, rs], by grind [cPerson, rsM], rfl, rfl⟩
          · refine x_aload_n 0 DX12_person_50 rfl rfl ?_
            refine x_bipush (-6) DX12_person_51 (by decide) ?_
            refine x_Ve (ci := 12) (av := [vI (-6)]) (rest := []) (st' := [vI (-6)]) 0 0 DX12_person_53 L12_120 rfl rfl rfl rfl rfl ⟨nle rfl, nle rfl, nle rfl⟩ ⟨rfl, nle rfl⟩ ⟨rfl, nle rfl⟩ (m_refuse K (-6) ι ρ Λ hF ⟨by decide, by decide⟩) rfl ?_
            refine x_nmι (fun ι53 e_ι53 => ?_)
            exact x_ireturn DX12_person_56 rfl ⟨by grind [cPerson, rs], by grind [cPerson, rsM], rfl, rfl⟩
      · refine x_aload_n 0 DX12_person_28 rfl rfl ?_
        refine x_bipush (-4) DX12_person_29 (by decide) ?_
        refine x_Ve (ci := 12) (av := [vI (-4)]) (rest := []) (st' := [vI (-4)]) 0 0 DX12_person_31 L12_120 rfl rfl rfl rfl rfl ⟨nle rfl, nle rfl, nle rfl⟩ ⟨rfl, nle rfl⟩ ⟨rfl, nle rfl⟩ (m_refuse K (-4) ι ρ Λ hF ⟨by decide, by decide⟩) rfl ?_
        refine x_nmι (fun ι31 e_ι31 => ?_)
        exact x_ireturn DX12_person_34 rfl ⟨by grind [cPerson, rs], by grind [cPerson, rsM], rfl, rfl⟩
    · refine x_aload_n 0 DX12_person_16 rfl rfl ?_
      refine x_iconst (-1) DX12_person_17 (by decide) ?_
      refine x_Ve (ci := 12) (av := [vI (-1)]) (rest := []) (st' := [vI (-1)]) 0 0 DX12_person_18 L12_120 rfl rfl rfl rfl rfl ⟨nle rfl, nle rfl, nle rfl⟩ ⟨rfl, nle rfl⟩ ⟨rfl, nle rfl⟩ (m_refuse K (-1) ι ρ Λ hF ⟨by decide, by decide⟩) rfl ?_
      refine x_nmι (fun ι18 e_ι18 => ?_)
      exact x_ireturn DX12_person_21 rfl ⟨by grind [cPerson, rs], by grind [cPerson, rsM], rfl, rfl⟩
theorem m_alive (K : gK) (p on : Int32) (ι : gIm) (ρ : gRm) (Λ : gLm) (hF : gFix ρ Λ) (np : Nat) (hP : ι 40 9 = nI np) (hp : np ≤ 30) (hon : on = 0 ∨ on = 1) : gCe K 2 0 0 jX12_alive [vR 40, vI p, vI on] ι ρ Λ (some (vI (rs (cIs p (nI np)) (if ι 76 p.toNatClampNeg = on then 0 else 1)))) (rsM (cIs p (nI np)) 41 ι (if ι 76 p.toNatClampNeg = on then ι else up2 ι 76 p.toNatClampNeg on)) ρ Λ := by
  refine gC_of (by decide) (nle rfl) ?_
  refine x_iload_n 1 DX12_alive_0 rfl rfl ?_
  refine x_aload_n 0 DX12_alive_1 rfl rfl ?_
  refine x_geti (v := (nI np)) 9 DX12_alive_2 (Or.inl F12_235) rfl rfl hP ?_
  refine x_Se (av := [vI p, vI (nI np)]) (rest := []) (st' := [vI (b2i (0 ≤ p ∧ p < (nI np)))]) 0 0 DX12_alive_5 L12_124 rfl rfl ⟨nle rfl, nle rfl, nle rfl⟩ ⟨rfl, nle rfl⟩ ⟨rfl, nle rfl⟩ (m_isIn K p (nI np) ι ρ Λ) rfl ?_
  refine x_if_ne_b 17 DX12_alive_8 (by decide) (fun c_8 => ?_) (fun c_8 => ?_)
  · refine x_aload_n 0 DX12_alive_17 rfl rfl ?_
    refine x_getr 44 (some 76) DX12_alive_18 (Or.inr F12_116) rfl rfl (hF.1 40 44 76 rfl) ?_
    refine x_iload_n 1 DX12_alive_21 rfl rfl ?_
    refine x_zald (v := (ι 76 p.toNatClampNeg)) p.toNatClampNeg rfl DX12_alive_22 rfl (gIn.fx hF (c := 76) (n := 30) rfl (gIn_nn (m := 30) (k := p) (n := np) (by assumption) hp (by omega))) rfl ?_
    refine x_iload_n 2 DX12_alive_23 rfl rfl ?_
    refine x_icmp_ne 29 DX12_alive_24 (by decide) (fun c_24 => ?_) (fun c_24 => ?_)
    · refine x_aload_n 0 DX12_alive_29 rfl rfl ?_
      refine x_getr 44 (some 76) DX12_alive_30 (Or.inr F12_116) rfl rfl (hF.1 40 44 76 rfl) ?_
      refine x_iload_n 1 DX12_alive_33 rfl rfl ?_
      refine x_iload_n 2 DX12_alive_34 rfl rfl ?_
      refine x_zast p.toNatClampNeg rfl DX12_alive_35 rfl (gIn.fx hF (c := 76) (n := 30) rfl (gIn_nn (m := 30) (k := p) (n := np) (by assumption) hp (by omega))) hon (fun ι35 e_ι35 => ?_)
      refine x_iconst 1 DX12_alive_36 (by decide) ?_
      exact x_ireturn DX12_alive_37 rfl ⟨by grind [cIs, rs], by grind [cIs, rsM], rfl, rfl⟩
    · refine x_iconst 0 DX12_alive_27 (by decide) ?_
      exact x_ireturn DX12_alive_28 rfl ⟨by grind [cIs, rs], by grind [cIs, rsM], rfl, rfl⟩
  · refine x_aload_n 0 DX12_alive_11 rfl rfl ?_
    refine x_iconst (-1) DX12_alive_12 (by decide) ?_
    refine x_Ve (ci := 12) (av := [vI (-1)]) (rest := []) (st' := [vI (-1)]) 0 0 DX12_alive_13 L12_120 rfl rfl rfl rfl rfl ⟨nle rfl, nle rfl, nle rfl⟩ ⟨rfl, nle rfl⟩ ⟨rfl, nle rfl⟩ (m_refuse K (-1) ι ρ Λ hF ⟨by decide, by decide⟩) rfl ?_
    refine x_nmι (fun ι13 e_ι13 => ?_)
    exact x_ireturn DX12_alive_16 rfl ⟨by grind [cIs, rs], by grind [cIs, rsM], rfl, rfl⟩
theorem m_isBefore (K : gK) (a b : Int32) (ι : gIm) (ρ : gRm) (Λ : gLm) (hF : gFix ρ Λ) (ha : gIn a 30) (hb : gIn b 30) : gCe K 1 0 0 jX12_isBefore [vR 40, vI a, vI b] ι ρ Λ (some (vI (sBef (ι 75) a b))) ι ρ Λ := by
  refine gC_of (by decide) (nle rfl) ?_
  refine x_aload_n 0 DX12_isBefore_0 rfl rfl ?_
  refine x_getr 43 (some 75) DX12_isBefore_1 (Or.inr F12_113) rfl rfl (hF.1 40 43 75 rfl) ?_
  refine x_iload_n 1 DX12_isBefore_4 rfl rfl ?_
  refine x_iald (v := (ι 75 a.toNatClampNeg)) a.toNatClampNeg rfl DX12_isBefore_5 rfl (gIn.fx hF (c := 75) (n := 30) rfl ha) rfl ?_
  refine x_aload_n 0 DX12_isBefore_6 rfl rfl ?_
  refine x_getr 43 (some 75) DX12_isBefore_7 (Or.inr F12_113) rfl rfl (hF.1 40 43 75 rfl) ?_
  refine x_iload_n 2 DX12_isBefore_10 rfl rfl ?_
  refine x_iald (v := (ι 75 b.toNatClampNeg)) b.toNatClampNeg rfl DX12_isBefore_11 rfl (gIn.fx hF (c := 75) (n := 30) rfl hb) rfl ?_
  refine x_icmp_eq 38 DX12_isBefore_12 (by decide) (fun c_12 => ?_) (fun c_12 => ?_)
  · refine x_iload_n 1 DX12_isBefore_38 rfl rfl ?_
    refine x_iload_n 2 DX12_isBefore_39 rfl rfl ?_
    refine x_icmp_ge 47 DX12_isBefore_40 (by decide) (fun c_40 => ?_) (fun c_40 => ?_)
    · refine x_iconst 0 DX12_isBefore_47 (by decide) ?_
      exact x_zreturn DX12_isBefore_48 rfl (Or.inl rfl) ⟨by grind [sBef], rfl, rfl, rfl⟩
    · refine x_iconst 1 DX12_isBefore_43 (by decide) ?_
      refine x_goto 48 DX12_isBefore_44 (by decide) ?_
      exact x_zreturn DX12_isBefore_48 rfl (Or.inr rfl) ⟨by grind [sBef], rfl, rfl, rfl⟩
  · refine x_aload_n 0 DX12_isBefore_15 rfl rfl ?_
    refine x_getr 43 (some 75) DX12_isBefore_16 (Or.inr F12_113) rfl rfl (hF.1 40 43 75 rfl) ?_
    refine x_iload_n 1 DX12_isBefore_19 rfl rfl ?_
    refine x_iald (v := (ι 75 a.toNatClampNeg)) a.toNatClampNeg rfl DX12_isBefore_20 rfl (gIn.fx hF (c := 75) (n := 30) rfl ha) rfl ?_
    refine x_aload_n 0 DX12_isBefore_21 rfl rfl ?_
    refine x_getr 43 (some 75) DX12_isBefore_22 (Or.inr F12_113) rfl rfl (hF.1 40 43 75 rfl) ?_
    refine x_iload_n 2 DX12_isBefore_25 rfl rfl ?_
    refine x_iald (v := (ι 75 b.toNatClampNeg)) b.toNatClampNeg rfl DX12_isBefore_26 rfl (gIn.fx hF (c := 75) (n := 30) rfl hb) rfl ?_
    refine x_icmp_ge 34 DX12_isBefore_27 (by decide) (fun c_27 => ?_) (fun c_27 => ?_)
    · refine x_iconst 0 DX12_isBefore_34 (by decide) ?_
      refine x_goto 48 DX12_isBefore_35 (by decide) ?_
      exact x_zreturn DX12_isBefore_48 rfl (Or.inl rfl) ⟨by grind [sBef], rfl, rfl, rfl⟩
    · refine x_iconst 1 DX12_isBefore_30 (by decide) ?_
      refine x_goto 48 DX12_isBefore_31 (by decide) ?_
      exact x_zreturn DX12_isBefore_48 rfl (Or.inr rfl) ⟨by grind [sBef], rfl, rfl, rfl⟩
theorem m_child (K : gK) (p q : Int32) (ι : gIm) (ρ : gRm) (Λ : gLm) (hF : gFix ρ Λ) (np : Nat) (hP : ι 40 9 = nI np) (hp : np ≤ 30) (hq : q < 0 ∨ gIn q 30) : gCe K 2 0 0 jX12_child [vR 40, vI p, vI q] ι ρ Λ (some (vI (sChild (ι 74) (ι 75) np p q))) ι ρ Λ := by
  refine gC_of (by decide) (nle rfl) ?_
  refine x_bipush (-9) DX12_child_0 (by decide) ?_
  refine x_istore_n 3 (lv' := [some (vR 40), some (vI p), some (vI q), some (vI (-9)), none]) DX12_child_2 rfl ⟨nlt rfl, nlt rfl⟩ rfl ?_
  refine x_iconst 0 DX12_child_3 (by decide) ?_
  refine x_istore (lv' := [some (vR 40), some (vI p), some (vI q), some (vI (-9)), some (vI 0)]) DX12_child_4 ⟨nlt rfl, nlt rfl⟩ rfl ?_
  refine x_lv (lv' := [some (vR 40), some (vI p), some (vI q), some (vI (-9)), some (vI (nI 0))]) (lvS (lvS (lvS (lvS (lvI nI_0.symm rfl))))) ?_
  refine lpJ (W := fun (i : Nat) (a : Int32) => gX K none 2 0 0 jX12_child 6 [some (vR 40), some (vI p), some (vI q), some (vI a), some (vI (nI i))] [] 0 0 ι ρ Λ _) (sCh1 (ι 74) (ι 75) p q) (fun i a => a < 0 ∨ gIn a 30) np (fun i a hi hJ ih => ?_) (fun i a hi hJ => by unfold sCh1; split; exact Or.inr (gIn_nI (by omega) (by omega)); exact hJ) 0 (-9) (by omega) (Or.inl (by decide)) (fun hJ => ?_)
  · refine x_iload DX12_child_6 rfl ?_
    refine x_aload_n 0 DX12_child_8 rfl rfl ?_
    refine x_geti (v := (nI np)) 9 DX12_child_9 (Or.inl F12_235) rfl rfl hP ?_
    refine x_icmp_ge 66 DX12_child_12 (by decide) (fun c_12 => False.elim (by rw [nI_le1 (by omega) (by omega)] at c_12; omega)) (fun c_12 => ?_)
    refine x_aload_n 0 DX12_child_15 rfl rfl ?_
    refine x_getr 42 (some 74) DX12_child_16 (Or.inr F12_110) rfl rfl (hF.1 40 42 74 rfl) ?_
    refine x_iload DX12_child_19 rfl ?_
    refine x_iald (v := (ι 74 i)) i (nI_cl1 (by omega)) DX12_child_21 rfl (gIn.fx hF (c := 74) (n := 30) rfl (gIn_nI (by omega) (by omega))) rfl ?_
    refine x_iload_n 1 DX12_child_22 rfl rfl ?_
    refine x_icmp_ne 60 DX12_child_23 (by decide) (fun c_23 => ?_) (fun c_23 => ?_)
    · refine x_iinc ((nI i) + 1) (lv' := [some (vR 40), some (vI p), some (vI q), some (vI a), some (vI ((nI i) + 1))]) DX12_child_60 rfl rfl (nlt rfl) rfl ?_
      refine x_goto 6 DX12_child_63 (by decide) ?_
      refine x_lv (lv' := [some (vR 40), some (vI p), some (vI q), some (vI (sCh1 (ι 74) (ι 75) p q i a)), some (vI (nI (i + 1)))]) (lvS (lvS (lvS (lvI (by unfold sCh1; first | rw [if_neg (by grind [sBef])] | rw [if_pos (by grind [sBef])]) (lvI (nI_1 i) rfl))))) ?_
      exact ih
    · refine x_iload_n 2 DX12_child_26 rfl rfl ?_
      refine x_if_lt 43 DX12_child_27 (by decide) (fun c_27 => ?_) (fun c_27 => ?_)
      · refine x_iload_n 3 DX12_child_43 rfl rfl ?_
        refine x_if_lt 57 DX12_child_44 (by decide) (fun c_44 => ?_) (fun c_44 => ?_)
        · refine x_iload DX12_child_57 rfl ?_
          refine x_istore_n 3 (lv' := [some (vR 40), some (vI p), some (vI q), some (vI (nI i)), some (vI (nI i))]) DX12_child_59 rfl ⟨nlt rfl, nlt rfl⟩ rfl ?_
          refine x_iinc ((nI i) + 1) (lv' := [some (vR 40), some (vI p), some (vI q), some (vI (nI i)), some (vI ((nI i) + 1))]) DX12_child_60 rfl rfl (nlt rfl) rfl ?_
          refine x_goto 6 DX12_child_63 (by decide) ?_
          refine x_lv (lv' := [some (vR 40), some (vI p), some (vI q), some (vI (sCh1 (ι 74) (ι 75) p q i a)), some (vI (nI (i + 1)))]) (lvS (lvS (lvS (lvI (by unfold sCh1; first | rw [if_neg (by grind [sBef])] | rw [if_pos (by grind [sBef])]) (lvI (nI_1 i) rfl))))) ?_
          exact ih
        · refine x_aload_n 0 DX12_child_47 rfl rfl ?_
          refine x_iload DX12_child_48 rfl ?_
          refine x_iload_n 3 DX12_child_50 rfl rfl ?_
          refine x_Ve (ci := 12) (av := [vI (nI i), vI a]) (rest := []) (st' := [vI (sBef (ι 75) (nI i) a)]) 0 0 DX12_child_51 L12_244 rfl rfl rfl rfl rfl ⟨nle rfl, nle rfl, nle rfl⟩ ⟨rfl, nle rfl⟩ ⟨rfl, nle rfl⟩ (m_isBefore K (nI i) a ι ρ Λ hF (gIn_nI (n := 30) (show i < 30 by omega) (by omega)) (hJ.resolve_left (by grind))) rfl ?_
          refine x_if_eq 60 DX12_child_54 (by decide) (fun c_54 => ?_) (fun c_54 => ?_)
          · refine x_iinc ((nI i) + 1) (lv' := [some (vR 40), some (vI p), some (vI q), some (vI a), some (vI ((nI i) + 1))]) DX12_child_60 rfl rfl (nlt rfl) rfl ?_
            refine x_goto 6 DX12_child_63 (by decide) ?_
            refine x_lv (lv' := [some (vR 40), some (vI p), some (vI q), some (vI (sCh1 (ι 74) (ι 75) p q i a)), some (vI (nI (i + 1)))]) (lvS (lvS (lvS (lvI (by unfold sCh1; first | rw [if_neg (by grind [sBef])] | rw [if_pos (by grind [sBef])]) (lvI (nI_1 i) rfl))))) ?_
            exact ih
          · refine x_iload DX12_child_57 rfl ?_
            refine x_istore_n 3 (lv' := [some (vR 40), some (vI p), some (vI q), some (vI (nI i)), some (vI (nI i))]) DX12_child_59 rfl ⟨nlt rfl, nlt rfl⟩ rfl ?_
            refine x_iinc ((nI i) + 1) (lv' := [some (vR 40), some (vI p), some (vI q), some (vI (nI i)), some (vI ((nI i) + 1))]) DX12_child_60 rfl rfl (nlt rfl) rfl ?_
            refine x_goto 6 DX12_child_63 (by decide) ?_
            refine x_lv (lv' := [some (vR 40), some (vI p), some (vI q), some (vI (sCh1 (ι 74) (ι 75) p q i a)), some (vI (nI (i + 1)))]) (lvS (lvS (lvS (lvI (by unfold sCh1; first | rw [if_neg (by grind [sBef])] | rw [if_pos (by grind [sBef])]) (lvI (nI_1 i) rfl))))) ?_
            exact ih
      · refine x_aload_n 0 DX12_child_30 rfl rfl ?_
        refine x_iload_n 2 DX12_child_31 rfl rfl ?_
        refine x_iload DX12_child_32 rfl ?_
        refine x_Ve (ci := 12) (av := [vI q, vI (nI i)]) (rest := []) (st' := [vI (sBef (ι 75) q (nI i))]) 0 0 DX12_child_34 L12_244 rfl rfl rfl rfl rfl ⟨nle rfl, nle rfl, nle rfl⟩ ⟨rfl, nle rfl⟩ ⟨rfl, nle rfl⟩ (m_isBefore K q (nI i) ι ρ Λ hF (hq.resolve_left (by grind)) (gIn_nI (n := 30) (show i < 30 by omega) (by omega))) rfl ?_
        refine x_if_ne 43 DX12_child_37 (by decide) (fun c_37 => ?_) (fun c_37 => ?_)
        · refine x_iload_n 3 DX12_child_43 rfl rfl ?_
          refine x_if_lt 57 DX12_child_44 (by decide) (fun c_44 => ?_) (fun c_44 => ?_)
          · refine x_iload DX12_child_57 rfl ?_
            refine x_istore_n 3 (lv' := [some (vR 40), some (vI p), some (vI q), some (vI (nI i)), some (vI (nI i))]) DX12_child_59 rfl ⟨nlt rfl, nlt rfl⟩ rfl ?_
            refine x_iinc ((nI i) + 1) (lv' := [some (vR 40), some (vI p), some (vI q), some (vI (nI i)), some (vI ((nI i) + 1))]) DX12_child_60 rfl rfl (nlt rfl) rfl ?_
            refine x_goto 6 DX12_child_63 (by decide) ?_
            refine x_lv (lv' := [some (vR 40), some (vI p), some (vI q), some (vI (sCh1 (ι 74) (ι 75) p q i a)), some (vI (nI (i + 1)))]) (lvS (lvS (lvS (lvI (by unfold sCh1; first | rw [if_neg (by grind [sBef])] | rw [if_pos (by grind [sBef])]) (lvI (nI_1 i) rfl))))) ?_
            exact ih
          · refine x_aload_n 0 DX12_child_47 rfl rfl ?_
            refine x_iload DX12_child_48 rfl ?_
            refine x_iload_n 3 DX12_child_50 rfl rfl ?_
            refine x_Ve (ci := 12) (av := [vI (nI i), vI a]) (rest := []) (st' := [vI (sBef (ι 75) (nI i) a)]) 0 0 DX12_child_51 L12_244 rfl rfl rfl rfl rfl ⟨nle rfl, nle rfl, nle rfl⟩ ⟨rfl, nle rfl⟩ ⟨rfl, nle rfl⟩ (m_isBefore K (nI i) a ι ρ Λ hF (gIn_nI (n := 30) (show i < 30 by omega) (by omega)) (hJ.resolve_left (by grind))) rfl ?_
            refine x_if_eq 60 DX12_child_54 (by decide) (fun c_54 => ?_) (fun c_54 => ?_)
            · refine x_iinc ((nI i) + 1) (lv' := [some (vR 40), some (vI p), some (vI q), some (vI a), some (vI ((nI i) + 1))]) DX12_child_60 rfl rfl (nlt rfl) rfl ?_
              refine x_goto 6 DX12_child_63 (by decide) ?_
              refine x_lv (lv' := [some (vR 40), some (vI p), some (vI q), some (vI (sCh1 (ι 74) (ι 75) p q i a)), some (vI (nI (i + 1)))]) (lvS (lvS (lvS (lvI (by unfold sCh1; first | rw [if_neg (by grind [sBef])] | rw [if_pos (by grind [sBef])]) (lvI (nI_1 i) rfl))))) ?_
              exact ih
            · refine x_iload DX12_child_57 rfl ?_
              refine x_istore_n 3 (lv' := [some (vR 40), some (vI p), some (vI q), some (vI (nI i)), some (vI (nI i))]) DX12_child_59 rfl ⟨nlt rfl, nlt rfl⟩ rfl ?_
              refine x_iinc ((nI i) + 1) (lv' := [some (vR 40), some (vI p), some (vI q), some (vI (nI i)), some (vI ((nI i) + 1))]) DX12_child_60 rfl rfl (nlt rfl) rfl ?_
              refine x_goto 6 DX12_child_63 (by decide) ?_
              refine x_lv (lv' := [some (vR 40), some (vI p), some (vI q), some (vI (sCh1 (ι 74) (ι 75) p q i a)), some (vI (nI (i + 1)))]) (lvS (lvS (lvS (lvI (by unfold sCh1; first | rw [if_neg (by grind [sBef])] | rw [if_pos (by grind [sBef])]) (lvI (nI_1 i) rfl))))) ?_
              exact ih
        · refine x_goto 60 DX12_child_40 (by decide) ?_
          refine x_iinc ((nI i) + 1) (lv' := [some (vR 40), some (vI p), some (vI q), some (vI a), some (vI ((nI i) + 1))]) DX12_child_60 rfl rfl (nlt rfl) rfl ?_
          refine x_goto 6 DX12_child_63 (by decide) ?_
          refine x_lv (lv' := [some (vR 40), some (vI p), some (vI q), some (vI (sCh1 (ι 74) (ι 75) p q i a)), some (vI (nI (i + 1)))]) (lvS (lvS (lvS (lvI (by unfold sCh1; first | rw [if_neg (by grind [sBef])] | rw [if_pos (by grind [sBef])]) (lvI (nI_1 i) rfl))))) ?_
          exact ih
  · show gX K none 2 0 0 jX12_child 6 [some (vR 40), some (vI p), some (vI q), some (vI (sChild (ι 74) (ι 75) np p q)), some (vI (nI np))] [] 0 0 ι ρ Λ _
    refine x_iload DX12_child_6 rfl ?_
    refine x_aload_n 0 DX12_child_8 rfl rfl ?_
    refine x_geti (v := (nI np)) 9 DX12_child_9 (Or.inl F12_235) rfl rfl hP ?_
    refine x_icmp_ge 66 DX12_child_12 (by decide) (fun c_12 => ?_) (fun c_12 => False.elim (c_12 (nI_le (by omega) (by omega))))
    refine x_iload_n 3 DX12_child_66 rfl rfl ?_
    exact x_ireturn DX12_child_67 rfl ⟨rfl, rfl, rfl, rfl⟩
theorem m_ropeOf (K : gK) (r what : Int32) (ι : gIm) (ρ : gRm) (Λ : gLm) (hF : gFix ρ Λ) (nr : Nat) (hR : ι 40 5 = nI nr) (hr : nr ≤ 200) : gCe K 3 0 0 jX12_ropeOf [vR 40, vI r, vI what] ι ρ Λ (some (vI (rs (cRope r (nI nr) what) (vRope (ι 52 r.toNatClampNeg) (ι 53 r.toNatClampNeg) (sFree (ι 58 r.toNatClampNeg) (ι 54 r.toNatClampNeg) (ι 40 2)) (ι 55 r.toNatClampNeg) (ι 54 r.toNatClampNeg) what)))) (rsM (cRope r (nI nr) what) 41 ι ι) ρ Λ := by
  refine gC_of (by decide) (nle rfl) ?_
  refine x_aload_n 0 DX12_ropeOf_0 rfl rfl ?_
  refine x_iload_n 1 DX12_ropeOf_1 rfl rfl ?_
  refine x_Ve (ci := 12) (av := [vI r]) (rest := []) (st' := [vI (b2i (0 ≤ r ∧ r < ι 40 5))]) 0 0 DX12_ropeOf_2 L12_185 rfl rfl rfl rfl rfl ⟨nle rfl, nle rfl, nle rfl⟩ ⟨rfl, nle rfl⟩ ⟨rfl, nle rfl⟩ (m_isRope K r ι ρ Λ hF) rfl ?_
  refine x_if_ne_b 14 DX12_ropeOf_5 (by decide) (fun c_5 => ?_) (fun c_5 => ?_)
  · refine x_iload_n 2 DX12_ropeOf_14 rfl rfl ?_
    by_cases s0 : what.toInt = 0
    · have sx : what = 0 := i32_eq 0 s0 rfl
      refine x_tableIn 48 0 DX12_ropeOf_15 (by omega) (by omega) (by omega) rfl (by decide) ?_
      refine x_aload_n 0 DX12_ropeOf_48 rfl rfl ?_
      refine x_getr 19 (some 52) DX12_ropeOf_49 (Or.inr F12_44) rfl rfl (hF.1 40 19 52 rfl) ?_
      refine x_iload_n 1 DX12_ropeOf_52 rfl rfl ?_
      refine x_iald (v := (ι 52 r.toNatClampNeg)) r.toNatClampNeg rfl DX12_ropeOf_53 rfl (gIn.fx hF (c := 52) (n := 200) rfl (gIn_nn (m := 200) (k := r) (n := nr) (by rw [← hR]; assumption) hr (by omega))) rfl ?_
      exact x_ireturn DX12_ropeOf_54 rfl ⟨by grind [cRope, rs, vRope, sFree], by grind [cRope, rsM], rfl, rfl⟩
    · skip
      by_cases s1 : what.toInt = 1
      · have sx : what = 1 := i32_eq 1 s1 rfl
        refine x_tableIn 55 1 DX12_ropeOf_15 (by omega) (by omega) (by omega) rfl (by decide) ?_
        refine x_aload_n 0 DX12_ropeOf_55 rfl rfl ?_
        refine x_getr 20 (some 53) DX12_ropeOf_56 (Or.inr F12_47) rfl rfl (hF.1 40 20 53 rfl) ?_
        refine x_iload_n 1 DX12_ropeOf_59 rfl rfl ?_
        refine x_iald (v := (ι 53 r.toNatClampNeg)) r.toNatClampNeg rfl DX12_ropeOf_60 rfl (gIn.fx hF (c := 53) (n := 200) rfl (gIn_nn (m := 200) (k := r) (n := nr) (by rw [← hR]; assumption) hr (by omega))) rfl ?_
        exact x_ireturn DX12_ropeOf_61 rfl ⟨by grind [cRope, rs, vRope, sFree], by grind [cRope, rsM], rfl, rfl⟩
      · skip
        by_cases s2 : what.toInt = 2
        · have sx : what = 2 := i32_eq 2 s2 rfl
          refine x_tableIn 62 2 DX12_ropeOf_15 (by omega) (by omega) (by omega) rfl (by decide) ?_
          refine x_aload_n 0 DX12_ropeOf_62 rfl rfl ?_
          refine x_iload_n 1 DX12_ropeOf_63 rfl rfl ?_
          refine x_Ve (ci := 12) (av := [vI r]) (rest := []) (st' := [vI (sFree (ι 58 r.toNatClampNeg) (ι 54 r.toNatClampNeg) (ι 40 2))]) 0 0 DX12_ropeOf_64 L12_188 rfl rfl rfl rfl rfl ⟨nle rfl, nle rfl, nle rfl⟩ ⟨rfl, nle rfl⟩ ⟨rfl, nle rfl⟩ (m_isFree K r ι ρ Λ hF (gIn_nn (m := 200) (k := r) (n := nr) (by rw [← hR]; assumption) hr (by omega))) rfl ?_
          refine x_if_eq 74 DX12_ropeOf_67 (by decide) (fun c_67 => ?_) (fun c_67 => ?_)
          · refine x_iconst 0 DX12_ropeOf_74 (by decide) ?_
            exact x_ireturn DX12_ropeOf_75 rfl ⟨by grind [cRope, rs, vRope, sFree], by grind [cRope, rsM], rfl, rfl⟩
          · refine x_iconst 1 DX12_ropeOf_70 (by decide) ?_
            refine x_goto 75 DX12_ropeOf_71 (by decide) ?_
            exact x_ireturn DX12_ropeOf_75 rfl ⟨by grind [cRope, rs, vRope, sFree], by grind [cRope, rsM], rfl, rfl⟩
        · skip
          by_cases s3 : what.toInt = 3
          · have sx : what = 3 := i32_eq 3 s3 rfl
            refine x_tableIn 76 3 DX12_ropeOf_15 (by omega) (by omega) (by omega) rfl (by decide) ?_
            refine x_aload_n 0 DX12_ropeOf_76 rfl rfl ?_
            refine x_getr 22 (some 55) DX12_ropeOf_77 (Or.inr F12_53) rfl rfl (hF.1 40 22 55 rfl) ?_
            refine x_iload_n 1 DX12_ropeOf_80 rfl rfl ?_
            refine x_iald (v := (ι 55 r.toNatClampNeg)) r.toNatClampNeg rfl DX12_ropeOf_81 rfl (gIn.fx hF (c := 55) (n := 200) rfl (gIn_nn (m := 200) (k := r) (n := nr) (by rw [← hR]; assumption) hr (by omega))) rfl ?_
            exact x_ireturn DX12_ropeOf_82 rfl ⟨by grind [cRope, rs, vRope, sFree], by grind [cRope, rsM], rfl, rfl⟩
          · skip
            by_cases s4 : what.toInt = 4
            · have sx : what = 4 := i32_eq 4 s4 rfl
              refine x_tableIn 83 4 DX12_ropeOf_15 (by omega) (by omega) (by omega) rfl (by decide) ?_
              refine x_aload_n 0 DX12_ropeOf_83 rfl rfl ?_
              refine x_getr 21 (some 54) DX12_ropeOf_84 (Or.inr F12_50) rfl rfl (hF.1 40 21 54 rfl) ?_
              refine x_iload_n 1 DX12_ropeOf_87 rfl rfl ?_
              refine x_iald (v := (ι 54 r.toNatClampNeg)) r.toNatClampNeg rfl DX12_ropeOf_88 rfl (gIn.fx hF (c := 54) (n := 200) rfl (gIn_nn (m := 200) (k := r) (n := nr) (by rw [← hR]; assumption) hr (by omega))) rfl ?_
              exact x_ireturn DX12_ropeOf_89 rfl ⟨by grind [cRope, rs, vRope, sFree], by grind [cRope, rsM], rfl, rfl⟩
            · skip
              refine x_tableOut 90 DX12_ropeOf_15 (by omega) (by decide) ?_
              refine x_aload_n 0 DX12_ropeOf_90 rfl rfl ?_
              refine x_bipush (-2) DX12_ropeOf_91 (by decide) ?_
              refine x_Ve (ci := 12) (av := [vI (-2)]) (rest := []) (st' := [vI (-2)]) 0 0 DX12_ropeOf_93 L12_120 rfl rfl rfl rfl rfl ⟨nle rfl, nle rfl, nle rfl⟩ ⟨rfl, nle rfl⟩ ⟨rfl, nle rfl⟩ (m_refuse K (-2) ι ρ Λ hF ⟨by decide, by decide⟩) rfl ?_
              refine x_nmι (fun ι93 e_ι93 => ?_)
              exact x_ireturn DX12_ropeOf_96 rfl ⟨by have hr0 : cRope r (nI nr) what = -2 := by { unfold cRope; rw [if_pos (by rw [← hR]; assumption), if_neg (sw_out5 s0 s1 s2 s3 s4)] }; rw [hr0]; rfl, by have hr0 : cRope r (nI nr) what = -2 := by { unfold cRope; rw [if_pos (by rw [← hR]; assumption), if_neg (sw_out5 s0 s1 s2 s3 s4)] }; rw [hr0]; assumption, rfl, rfl⟩
  · refine x_aload_n 0 DX12_ropeOf_8 rfl rfl ?_
    refine x_iconst (-1) DX12_ropeOf_9 (by decide) ?_
    refine x_Ve (ci := 12) (av := [vI (-1)]) (rest := []) (st' := [vI (-1)]) 0 0 DX12_ropeOf_10 L12_120 rfl rfl rfl rfl rfl ⟨nle rfl, nle rfl, nle rfl⟩ ⟨rfl, nle rfl⟩ ⟨rfl, nle rfl⟩ (m_refuse K (-1) ι ρ Λ hF ⟨by decide, by decide⟩) rfl ?_
    refine x_nmι (fun ι10 e_ι10 => ?_)
    exact x_ireturn DX12_ropeOf_13 rfl ⟨by grind [cRope, rs, vRope, sFree], by grind [cRope, rsM], rfl, rfl⟩
theorem m_count (K : gK) (what : Int32) (ι : gIm) (ρ : gRm) (Λ : gLm) (hF : gFix ρ Λ) (nh : Nat) (hH : ι 40 4 = nI nh) (hn : nh ≤ 24) : gCe K 2 0 0 jX12_count [vR 40, vI what] ι ρ Λ (some (vI (vCount (ι 41) (ι 40 2) (ι 40 3) (ι 40 4) (ι 40 5) (sHands (ι 50) (ι 44) nh) (ι 40 7) (ι 40 8) (ι 40 9) what))) ι ρ Λ := by
  refine gC_of (by decide) (nle rfl) ?_
  refine x_iload_n 1 DX12_count_0 rfl rfl ?_
  refine x_bipush 10 DX12_count_1 (by decide) ?_
  refine x_icmp_le 22 DX12_count_3 (by decide) (fun c_3 => ?_) (fun c_3 => ?_)
  · refine x_iload_n 1 DX12_count_22 rfl rfl ?_
    by_cases s0 : what.toInt = 0
    · have sx : what = 0 := i32_eq 0 s0 rfl
      refine x_tableIn 68 0 DX12_count_23 (by omega) (by omega) (by omega) rfl (by decide) ?_
      refine x_aload_n 0 DX12_count_68 rfl rfl ?_
      refine x_geti (v := (ι 40 2)) 2 DX12_count_69 (Or.inl F12_162) rfl rfl rfl ?_
      exact x_ireturn DX12_count_72 rfl ⟨by grind [vCount], rfl, rfl, rfl⟩
    · skip
      by_cases s1 : what.toInt = 1
      · have sx : what = 1 := i32_eq 1 s1 rfl
        refine x_tableIn 73 1 DX12_count_23 (by omega) (by omega) (by omega) rfl (by decide) ?_
        refine x_aload_n 0 DX12_count_73 rfl rfl ?_
        refine x_geti (v := (ι 40 3)) 3 DX12_count_74 (Or.inl F12_165) rfl rfl rfl ?_
        exact x_ireturn DX12_count_77 rfl ⟨by grind [vCount], rfl, rfl, rfl⟩
      · skip
        by_cases s2 : what.toInt = 2
        · have sx : what = 2 := i32_eq 2 s2 rfl
          refine x_tableIn 78 2 DX12_count_23 (by omega) (by omega) (by omega) rfl (by decide) ?_
          refine x_aload_n 0 DX12_count_78 rfl rfl ?_
          refine x_geti (v := (ι 40 4)) 4 DX12_count_79 (Or.inl F12_144) rfl rfl rfl ?_
          exact x_ireturn DX12_count_82 rfl ⟨by grind [vCount], rfl, rfl, rfl⟩
        · skip
          by_cases s3 : what.toInt = 3
          · have sx : what = 3 := i32_eq 3 s3 rfl
            refine x_tableIn 83 3 DX12_count_23 (by omega) (by omega) (by omega) rfl (by decide) ?_
            refine x_aload_n 0 DX12_count_83 rfl rfl ?_
            refine x_geti (v := (ι 40 5)) 5 DX12_count_84 (Or.inl F12_168) rfl rfl rfl ?_
            exact x_ireturn DX12_count_87 rfl ⟨by grind [vCount], rfl, rfl, rfl⟩
          · skip
            by_cases s4 : what.toInt = 4
            · have sx : what = 4 := i32_eq 4 s4 rfl
              refine x_tableIn 88 4 DX12_count_23 (by omega) (by omega) (by omega) rfl (by decide) ?_
              refine x_aload_n 0 DX12_count_88 rfl rfl ?_
              refine x_Ve (ci := 12) (av := []) (rest := []) (st' := [vI (sHands (ι 50) (ι 44) nh)]) 0 0 DX12_count_89 L12_155 rfl rfl rfl rfl rfl ⟨nle rfl, nle rfl, nle rfl⟩ ⟨rfl, nle rfl⟩ ⟨rfl, nle rfl⟩ (m_allHands K ι ρ Λ hF nh hH hn) rfl ?_
              exact x_ireturn DX12_count_92 rfl ⟨by grind [vCount], rfl, rfl, rfl⟩
            · skip
              by_cases s5 : what.toInt = 5
              · have sx : what = 5 := i32_eq 5 s5 rfl
                refine x_tableIn 93 5 DX12_count_23 (by omega) (by omega) (by omega) rfl (by decide) ?_
                refine x_aload_n 0 DX12_count_93 rfl rfl ?_
                refine x_geti (v := (ι 40 7)) 7 DX12_count_94 (Or.inl F12_213) rfl rfl rfl ?_
                exact x_ireturn DX12_count_97 rfl ⟨by grind [vCount], rfl, rfl, rfl⟩
              · skip
                by_cases s6 : what.toInt = 6
                · have sx : what = 6 := i32_eq 6 s6 rfl
                  refine x_tableIn 98 6 DX12_count_23 (by omega) (by omega) (by omega) rfl (by decide) ?_
                  refine x_aload_n 0 DX12_count_98 rfl rfl ?_
                  refine x_geti (v := (ι 40 8)) 8 DX12_count_99 (Or.inl F12_216) rfl rfl rfl ?_
                  exact x_ireturn DX12_count_102 rfl ⟨by grind [vCount], rfl, rfl, rfl⟩
                · skip
                  by_cases s7 : what.toInt = 7
                  · have sx : what = 7 := i32_eq 7 s7 rfl
                    refine x_tableIn 103 7 DX12_count_23 (by omega) (by omega) (by omega) rfl (by decide) ?_
                    refine x_aload_n 0 DX12_count_103 rfl rfl ?_
                    refine x_geti (v := (ι 40 9)) 9 DX12_count_104 (Or.inl F12_235) rfl rfl rfl ?_
                    exact x_ireturn DX12_count_107 rfl ⟨by grind [vCount], rfl, rfl, rfl⟩
                  · skip
                    refine x_tableOut 108 DX12_count_23 (by omega) (by decide) ?_
                    refine x_bipush (-9) DX12_count_108 (by decide) ?_
                    exact x_ireturn DX12_count_110 rfl ⟨by rw [vCount, if_neg (by grind), if_neg (ne_i s0 rfl), if_neg (ne_i s1 rfl), if_neg (ne_i s2 rfl), if_neg (ne_i s3 rfl), if_neg (ne_i s4 rfl), if_neg (ne_i s5 rfl), if_neg (ne_i s6 rfl), if_neg (ne_i s7 rfl)], rfl, rfl, rfl⟩
  · refine x_iload_n 1 DX12_count_6 rfl rfl ?_
    refine x_bipush 17 DX12_count_7 (by decide) ?_
    refine x_icmp_ge 22 DX12_count_9 (by decide) (fun c_9 => ?_) (fun c_9 => ?_)
    · refine x_iload_n 1 DX12_count_22 rfl rfl ?_
      by_cases s0 : what.toInt = 0
      · have sx : what = 0 := i32_eq 0 s0 rfl
        refine x_tableIn 68 0 DX12_count_23 (by omega) (by omega) (by omega) rfl (by decide) ?_
        refine x_aload_n 0 DX12_count_68 rfl rfl ?_
        refine x_geti (v := (ι 40 2)) 2 DX12_count_69 (Or.inl F12_162) rfl rfl rfl ?_
        exact x_ireturn DX12_count_72 rfl ⟨by grind [vCount], rfl, rfl, rfl⟩
      · skip
        by_cases s1 : what.toInt = 1
        · have sx : what = 1 := i32_eq 1 s1 rfl
          refine x_tableIn 73 1 DX12_count_23 (by omega) (by omega) (by omega) rfl (by decide) ?_
          refine x_aload_n 0 DX12_count_73 rfl rfl ?_
          refine x_geti (v := (ι 40 3)) 3 DX12_count_74 (Or.inl F12_165) rfl rfl rfl ?_
          exact x_ireturn DX12_count_77 rfl ⟨by grind [vCount], rfl, rfl, rfl⟩
        · skip
          by_cases s2 : what.toInt = 2
          · have sx : what = 2 := i32_eq 2 s2 rfl
            refine x_tableIn 78 2 DX12_count_23 (by omega) (by omega) (by omega) rfl (by decide) ?_
            refine x_aload_n 0 DX12_count_78 rfl rfl ?_
            refine x_geti (v := (ι 40 4)) 4 DX12_count_79 (Or.inl F12_144) rfl rfl rfl ?_
            exact x_ireturn DX12_count_82 rfl ⟨by grind [vCount], rfl, rfl, rfl⟩
          · skip
            by_cases s3 : what.toInt = 3
            · have sx : what = 3 := i32_eq 3 s3 rfl
              refine x_tableIn 83 3 DX12_count_23 (by omega) (by omega) (by omega) rfl (by decide) ?_
              refine x_aload_n 0 DX12_count_83 rfl rfl ?_
              refine x_geti (v := (ι 40 5)) 5 DX12_count_84 (Or.inl F12_168) rfl rfl rfl ?_
              exact x_ireturn DX12_count_87 rfl ⟨by grind [vCount], rfl, rfl, rfl⟩
            · skip
              by_cases s4 : what.toInt = 4
              · have sx : what = 4 := i32_eq 4 s4 rfl
                refine x_tableIn 88 4 DX12_count_23 (by omega) (by omega) (by omega) rfl (by decide) ?_
                refine x_aload_n 0 DX12_count_88 rfl rfl ?_
                refine x_Ve (ci := 12) (av := []) (rest := []) (st' := [vI (sHands (ι 50) (ι 44) nh)]) 0 0 DX12_count_89 L12_155 rfl rfl rfl rfl rfl ⟨nle rfl, nle rfl, nle rfl⟩ ⟨rfl, nle rfl⟩ ⟨rfl, nle rfl⟩ (m_allHands K ι ρ Λ hF nh hH hn) rfl ?_
                exact x_ireturn DX12_count_92 rfl ⟨by grind [vCount], rfl, rfl, rfl⟩
              · skip
                by_cases s5 : what.toInt = 5
                · have sx : what = 5 := i32_eq 5 s5 rfl
                  refine x_tableIn 93 5 DX12_count_23 (by omega) (by omega) (by omega) rfl (by decide) ?_
                  refine x_aload_n 0 DX12_count_93 rfl rfl ?_
                  refine x_geti (v := (ι 40 7)) 7 DX12_count_94 (Or.inl F12_213) rfl rfl rfl ?_
                  exact x_ireturn DX12_count_97 rfl ⟨by grind [vCount], rfl, rfl, rfl⟩
                · skip
                  by_cases s6 : what.toInt = 6
                  · have sx : what = 6 := i32_eq 6 s6 rfl
                    refine x_tableIn 98 6 DX12_count_23 (by omega) (by omega) (by omega) rfl (by decide) ?_
                    refine x_aload_n 0 DX12_count_98 rfl rfl ?_
                    refine x_geti (v := (ι 40 8)) 8 DX12_count_99 (Or.inl F12_216) rfl rfl rfl ?_
                    exact x_ireturn DX12_count_102 rfl ⟨by grind [vCount], rfl, rfl, rfl⟩
                  · skip
                    by_cases s7 : what.toInt = 7
                    · have sx : what = 7 := i32_eq 7 s7 rfl
                      refine x_tableIn 103 7 DX12_count_23 (by omega) (by omega) (by omega) rfl (by decide) ?_
                      refine x_aload_n 0 DX12_count_103 rfl rfl ?_
                      refine x_geti (v := (ι 40 9)) 9 DX12_count_104 (Or.inl F12_235) rfl rfl rfl ?_
                      exact x_ireturn DX12_count_107 rfl ⟨by grind [vCount], rfl, rfl, rfl⟩
                    · skip
                      refine x_tableOut 108 DX12_count_23 (by omega) (by decide) ?_
                      refine x_bipush (-9) DX12_count_108 (by decide) ?_
                      exact x_ireturn DX12_count_110 rfl ⟨by rw [vCount, if_neg (by grind), if_neg (ne_i s0 rfl), if_neg (ne_i s1 rfl), if_neg (ne_i s2 rfl), if_neg (ne_i s3 rfl), if_neg (ne_i s4 rfl), if_neg (ne_i s5 rfl), if_neg (ne_i s6 rfl), if_neg (ne_i s7 rfl)], rfl, rfl, rfl⟩
    · refine x_aload_n 0 DX12_count_12 rfl rfl ?_
      refine x_getr 0 (some 41) DX12_count_13 (Or.inr F12_7) rfl rfl (hF.1 40 0 41 rfl) ?_
      refine x_iload_n 1 DX12_count_16 rfl rfl ?_
      refine x_bipush 10 DX12_count_17 (by decide) ?_
      refine x_isub DX12_count_19 ?_
      refine x_iald (v := (ι 41 ((what - 10).toNatClampNeg))) ((what - 10).toNatClampNeg) rfl DX12_count_20 rfl (gIn.fx hF (c := 41) (n := 7) rfl (cnt_in (by grind) (by grind))) rfl ?_
      exact x_ireturn DX12_count_21 rfl ⟨by grind [vCount], rfl, rfl, rfl⟩
