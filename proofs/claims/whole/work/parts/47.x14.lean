/-! the class, XIV: people -/
theorem x_count (K : gK) (what : Int32) (ι : gIm) (ρ : gRm) (Λ : gLm) (hF : gFix ρ Λ) (nh : Nat) (hH : ι 4 2 = nI nh) (hn : nh ≤ 24) (hAl : ∀ i, i < nh → ρ 5 i = some (100 + i)) : gCe K 3 0 0 jX11_count [vR 0, vI what] ι ρ Λ (some (vI (vCount (ι 1) (ι 2 0) (ι 2 1) (ι 4 2) (ι 7 1) (sHands (hr ι 4) (hr ι 2) nh) (ι 14 1) (ι 16 5) (ι 31 4) what))) ι ρ Λ := by
  refine gC_of (by decide) (nle rfl) ?_
  refine x_iload_n 1 DX11_count_0 rfl rfl ?_
  by_cases s0 : what.toInt = 0
  · have sx : what = 0 := i32_eq 0 s0 rfl
    refine x_tableIn 48 0 DX11_count_1 (by omega) (by omega) (by omega) rfl (by decide) ?_
    refine x_aload_n 0 DX11_count_48 rfl rfl ?_
    refine x_getr 1 (some 2) DX11_count_49 (Or.inr F11_16) rfl rfl (hF.1 0 1 2 rfl) ?_
    refine x_geti (v := (ι 2 0)) 0 DX11_count_52 (Or.inl F11_94) rfl rfl rfl ?_
    exact x_ireturn DX11_count_55 rfl ⟨by grind [vCount], rfl, rfl, rfl⟩
  · skip
    by_cases s1 : what.toInt = 1
    · have sx : what = 1 := i32_eq 1 s1 rfl
      refine x_tableIn 56 1 DX11_count_1 (by omega) (by omega) (by omega) rfl (by decide) ?_
      refine x_aload_n 0 DX11_count_56 rfl rfl ?_
      refine x_getr 1 (some 2) DX11_count_57 (Or.inr F11_16) rfl rfl (hF.1 0 1 2 rfl) ?_
      refine x_geti (v := (ι 2 1)) 1 DX11_count_60 (Or.inl F11_104) rfl rfl rfl ?_
      exact x_ireturn DX11_count_63 rfl ⟨by grind [vCount], rfl, rfl, rfl⟩
    · skip
      by_cases s2 : what.toInt = 2
      · have sx : what = 2 := i32_eq 2 s2 rfl
        refine x_tableIn 64 2 DX11_count_1 (by omega) (by omega) (by omega) rfl (by decide) ?_
        refine x_aload_n 0 DX11_count_64 rfl rfl ?_
        refine x_getr 2 (some 4) DX11_count_65 (Or.inr F11_23) rfl rfl (hF.1 0 2 4 rfl) ?_
        refine x_geti (v := (ι 4 2)) 2 DX11_count_68 (Or.inl F11_133) rfl rfl rfl ?_
        exact x_ireturn DX11_count_71 rfl ⟨by grind [vCount], rfl, rfl, rfl⟩
      · skip
        by_cases s3 : what.toInt = 3
        · have sx : what = 3 := i32_eq 3 s3 rfl
          refine x_tableIn 72 3 DX11_count_1 (by omega) (by omega) (by omega) rfl (by decide) ?_
          refine x_aload_n 0 DX11_count_72 rfl rfl ?_
          refine x_getr 3 (some 7) DX11_count_73 (Or.inr F11_30) rfl rfl (hF.1 0 3 7 rfl) ?_
          refine x_geti (v := (ι 7 1)) 1 DX11_count_76 (Or.inl F11_297) rfl rfl rfl ?_
          exact x_ireturn DX11_count_79 rfl ⟨by grind [vCount], rfl, rfl, rfl⟩
        · skip
          by_cases s4 : what.toInt = 4
          · have sx : what = 4 := i32_eq 4 s4 rfl
            refine x_tableIn 80 4 DX11_count_1 (by omega) (by omega) (by omega) rfl (by decide) ?_
            refine x_aload_n 0 DX11_count_80 rfl rfl ?_
            refine x_getr 2 (some 4) DX11_count_81 (Or.inr F11_23) rfl rfl (hF.1 0 2 4 rfl) ?_
            refine x_Ve (ci := 3) (av := []) (rest := []) (st' := [vI (sHands (hr ι 4) (hr ι 2) nh)]) 0 0 DX11_count_84 L11_268 rfl rfl rfl rfl rfl ⟨nle rfl, nle rfl, nle rfl⟩ ⟨rfl, nle rfl⟩ ⟨rfl, nle rfl⟩ (x_handsHere K ι ρ Λ hF nh hH hn hAl) rfl ?_
            exact x_ireturn DX11_count_87 rfl ⟨by grind [vCount], rfl, rfl, rfl⟩
          · skip
            by_cases s5 : what.toInt = 5
            · have sx : what = 5 := i32_eq 5 s5 rfl
              refine x_tableIn 88 5 DX11_count_1 (by omega) (by omega) (by omega) rfl (by decide) ?_
              refine x_aload_n 0 DX11_count_88 rfl rfl ?_
              refine x_getr 5 (some 14) DX11_count_89 (Or.inr F11_44) rfl rfl (hF.1 0 5 14 rfl) ?_
              refine x_geti (v := (ι 14 1)) 1 DX11_count_92 (Or.inl F11_298) rfl rfl rfl ?_
              exact x_ireturn DX11_count_95 rfl ⟨by grind [vCount], rfl, rfl, rfl⟩
            · skip
              by_cases s6 : what.toInt = 6
              · have sx : what = 6 := i32_eq 6 s6 rfl
                refine x_tableIn 96 6 DX11_count_1 (by omega) (by omega) (by omega) rfl (by decide) ?_
                refine x_aload_n 0 DX11_count_96 rfl rfl ?_
                refine x_getr 6 (some 16) DX11_count_97 (Or.inr F11_51) rfl rfl (hF.1 0 6 16 rfl) ?_
                refine x_geti (v := (ι 16 5)) 5 DX11_count_100 (Or.inl F11_258) rfl rfl rfl ?_
                exact x_ireturn DX11_count_103 rfl ⟨by grind [vCount], rfl, rfl, rfl⟩
              · skip
                by_cases s7 : what.toInt = 7
                · have sx : what = 7 := i32_eq 7 s7 rfl
                  refine x_tableIn 104 7 DX11_count_1 (by omega) (by omega) (by omega) rfl (by decide) ?_
                  refine x_aload_n 0 DX11_count_104 rfl rfl ?_
                  refine x_getr 8 (some 31) DX11_count_105 (Or.inr F11_67) rfl rfl (hF.1 0 8 31 rfl) ?_
                  refine x_geti (v := (ι 31 4)) 4 DX11_count_108 (Or.inl F11_284) rfl rfl rfl ?_
                  exact x_ireturn DX11_count_111 rfl ⟨by grind [vCount], rfl, rfl, rfl⟩
                · skip
                  refine x_tableOut 112 DX11_count_1 (by omega) (by decide) ?_
                  refine x_iload_n 1 DX11_count_112 rfl rfl ?_
                  refine x_bipush 11 DX11_count_113 (by decide) ?_
                  refine x_icmp_lt 136 DX11_count_115 (by decide) (fun c_115 => ?_) (fun c_115 => ?_)
                  · refine x_bipush (-9) DX11_count_136 (by decide) ?_
                    exact x_ireturn DX11_count_138 rfl ⟨by rw [vCount, if_neg (by grind), if_neg (ne_i s0 rfl), if_neg (ne_i s1 rfl), if_neg (ne_i s2 rfl), if_neg (ne_i s3 rfl), if_neg (ne_i s4 rfl), if_neg (ne_i s5 rfl), if_neg (ne_i s6 rfl), if_neg (ne_i s7 rfl)], rfl, rfl, rfl⟩
                  · refine x_iload_n 1 DX11_count_118 rfl rfl ?_
                    refine x_bipush 16 DX11_count_119 (by decide) ?_
                    refine x_icmp_gt 136 DX11_count_121 (by decide) (fun c_121 => ?_) (fun c_121 => ?_)
                    · refine x_bipush (-9) DX11_count_136 (by decide) ?_
                      exact x_ireturn DX11_count_138 rfl ⟨by rw [vCount, if_neg (by grind), if_neg (ne_i s0 rfl), if_neg (ne_i s1 rfl), if_neg (ne_i s2 rfl), if_neg (ne_i s3 rfl), if_neg (ne_i s4 rfl), if_neg (ne_i s5 rfl), if_neg (ne_i s6 rfl), if_neg (ne_i s7 rfl)], rfl, rfl, rfl⟩
                    · refine x_aload_n 0 DX11_count_124 rfl rfl ?_
                      refine x_getr 0 (some 1) DX11_count_125 (Or.inr F11_7) rfl rfl (hF.1 0 0 1 rfl) ?_
                      refine x_iload_n 1 DX11_count_128 rfl rfl ?_
                      refine x_bipush 10 DX11_count_129 (by decide) ?_
                      refine x_isub DX11_count_131 ?_
                      refine x_iald (v := (ι 1 ((what - 10).toNatClampNeg))) ((what - 10).toNatClampNeg) rfl DX11_count_132 rfl (gIn.fx hF (c := 1) (n := 7) rfl (cnt_in (by grind) (by grind))) rfl ?_
                      refine x_goto 138 DX11_count_133 (by decide) ?_
                      exact x_ireturn DX11_count_138 rfl ⟨by rw [vCount, if_pos ⟨by grind, by grind⟩], rfl, rfl, rfl⟩
theorem x_isKnown (K : gK) (i : Int32) (ι : gIm) (ρ : gRm) (Λ : gLm) (np : Nat) (hP : ι 31 4 = nI np) (hp : np ≤ 30) : gCe K 1 0 0 jX4_isKnown [vR 31, vI i] ι ρ Λ (some (vI (b2i (0 ≤ i ∧ i < nI np)))) ι ρ Λ := by
  refine gC_of (by decide) (nle rfl) ?_
  refine x_iload_n 1 DX4_isKnown_0 rfl rfl ?_
  refine x_if_lt 22 DX4_isKnown_1 (by decide) (fun c_1 => ?_) (fun c_1 => ?_)
  · refine x_iconst 0 DX4_isKnown_22 (by decide) ?_
    exact x_zreturn DX4_isKnown_23 rfl (Or.inl rfl) ⟨by grind [b2i], rfl, rfl, rfl⟩
  · refine x_iload_n 1 DX4_isKnown_4 rfl rfl ?_
    refine x_aload_n 0 DX4_isKnown_5 rfl rfl ?_
    refine x_geti (v := (nI np)) 4 DX4_isKnown_6 (Or.inl F4_25) rfl rfl hP ?_
    refine x_icmp_ge 22 DX4_isKnown_9 (by decide) (fun c_9 => ?_) (fun c_9 => ?_)
    · refine x_iconst 0 DX4_isKnown_22 (by decide) ?_
      exact x_zreturn DX4_isKnown_23 rfl (Or.inl rfl) ⟨by grind [b2i], rfl, rfl, rfl⟩
    · refine x_iload_n 1 DX4_isKnown_12 rfl rfl ?_
      refine x_bipush 30 DX4_isKnown_13 (by decide) ?_
      refine x_icmp_ge 22 DX4_isKnown_15 (by decide) (fun c_15 => False.elim (by have h3 := k30 ⟨by grind, by grind⟩ hp (i := i); grind)) (fun c_15 => ?_)
      refine x_iconst 1 DX4_isKnown_18 (by decide) ?_
      refine x_goto 23 DX4_isKnown_19 (by decide) ?_
      exact x_zreturn DX4_isKnown_23 rfl (Or.inr rfl) ⟨by grind [b2i], rfl, rfl, rfl⟩
theorem x_birthOf (K : gK) (i : Int32) (ι : gIm) (ρ : gRm) (Λ : gLm) (hF : gFix ρ Λ) (np : Nat) (hP : ι 31 4 = nI np) (hp : np ≤ 30) : gCe K 2 0 0 jX4_birthOf [vR 31, vI i] ι ρ Λ (some (vI (if 0 ≤ i ∧ i < nI np then ι 33 i.toNatClampNeg else 0))) ι ρ Λ := by
  refine gC_of (by decide) (nle rfl) ?_
  refine x_aload_n 0 DX4_birthOf_0 rfl rfl ?_
  refine x_iload_n 1 DX4_birthOf_1 rfl rfl ?_
  refine x_Ve (ci := 4) (av := [vI i]) (rest := []) (st' := [vI (b2i (0 ≤ i ∧ i < nI np))]) 0 0 DX4_birthOf_2 L4_29 rfl rfl rfl rfl rfl ⟨nle rfl, nle rfl, nle rfl⟩ ⟨rfl, nle rfl⟩ ⟨rfl, nle rfl⟩ (x_isKnown K i ι ρ Λ np hP hp) rfl ?_
  refine x_if_eq_b 17 DX4_birthOf_5 (by decide) (fun c_5 => ?_) (fun c_5 => ?_)
  · refine x_iconst 0 DX4_birthOf_17 (by decide) ?_
    exact x_ireturn DX4_birthOf_18 rfl ⟨by grind, rfl, rfl, rfl⟩
  · refine x_aload_n 0 DX4_birthOf_8 rfl rfl ?_
    refine x_getr 1 (some 33) DX4_birthOf_9 (Or.inr F4_15) rfl rfl (hF.1 31 1 33 rfl) ?_
    refine x_iload_n 1 DX4_birthOf_12 rfl rfl ?_
    refine x_iald (v := (ι 33 i.toNatClampNeg)) i.toNatClampNeg rfl DX4_birthOf_13 rfl (gIn.fx hF (c := 33) (n := 30) rfl (gIn_nn (m := 30) (k := i) (n := np) (by assumption) hp (by omega))) rfl ?_
    refine x_goto 18 DX4_birthOf_14 (by decide) ?_
    exact x_ireturn DX4_birthOf_18 rfl ⟨by grind, rfl, rfl, rfl⟩
theorem x_addP (K : gK) (p b : Int32) (ι : gIm) (ρ : gRm) (Λ : gLm) (hF : gFix ρ Λ) (np : Nat) (hP : ι 31 4 = nI np) (hp : np < 30) : gCe K 1 0 0 jX4_add [vR 31, vI p, vI b] ι ρ Λ (some (vI (nI np))) (xAdd ι np p b) ρ Λ := by
  refine gC_of (by decide) (nle rfl) ?_
  refine x_aload_n 0 DX4_add_0 rfl rfl ?_
  refine x_geti (v := (nI np)) 4 DX4_add_1 (Or.inl F4_25) rfl rfl hP ?_
  refine x_bipush 30 DX4_add_4 (by decide) ?_
  refine x_icmp_lt 12 DX4_add_6 (by decide) (fun c_6 => ?_) (fun c_6 => False.elim (c_6 (show nI np < nI 30 from nI_lt (by omega) (by omega))))
  refine x_aload_n 0 DX4_add_12 rfl rfl ?_
  refine x_getr 0 (some 32) DX4_add_13 (Or.inr F4_9) rfl rfl (hF.1 31 0 32 rfl) ?_
  refine x_aload_n 0 DX4_add_16 rfl rfl ?_
  refine x_geti (v := (nI np)) 4 DX4_add_17 (Or.inl F4_25) rfl rfl hP ?_
  refine x_iload_n 1 DX4_add_20 rfl rfl ?_
  refine x_iast np (nI_cl1 (by omega)) DX4_add_21 rfl (gIn.fx hF (c := 32) (n := 30) rfl (gIn_nI (by omega) (by omega))) (fun ι21 e_ι21 => ?_)
  refine x_aload_n 0 DX4_add_22 rfl rfl ?_
  refine x_getr 1 (some 33) DX4_add_23 (Or.inr F4_15) rfl rfl (hF.1 31 1 33 rfl) ?_
  refine x_aload_n 0 DX4_add_26 rfl rfl ?_
  refine x_geti (v := (nI np)) 4 DX4_add_27 (Or.inl F4_25) rfl rfl ((rd1 e_ι21 (by decide)).trans hP) ?_
  refine x_iload_n 2 DX4_add_30 rfl rfl ?_
  refine x_iast np (nI_cl1 (by omega)) DX4_add_31 rfl (gIn.fx hF (c := 33) (n := 30) rfl (gIn_nI (by omega) (by omega))) (fun ι31 e_ι31 => ?_)
  refine x_aload_n 0 DX4_add_32 rfl rfl ?_
  refine x_getr 2 (some 34) DX4_add_33 (Or.inr F4_18) rfl rfl (hF.1 31 2 34 rfl) ?_
  refine x_aload_n 0 DX4_add_36 rfl rfl ?_
  refine x_geti (v := (nI np)) 4 DX4_add_37 (Or.inl F4_25) rfl rfl (((rd1 e_ι31 (by decide)).trans (rd1 e_ι21 (by decide))).trans hP) ?_
  refine x_iconst 1 DX4_add_40 (by decide) ?_
  refine x_zast np (nI_cl1 (by omega)) DX4_add_41 rfl (gIn.fx hF (c := 34) (n := 30) rfl (gIn_nI (by omega) (by omega))) (Or.inr rfl) (fun ι41 e_ι41 => ?_)
  refine x_aload_n 0 DX4_add_42 rfl rfl ?_
  refine x_getr 3 (some 35) DX4_add_43 (Or.inr F4_22) rfl rfl (hF.1 31 3 35 rfl) ?_
  refine x_aload_n 0 DX4_add_46 rfl rfl ?_
  refine x_geti (v := (nI np)) 4 DX4_add_47 (Or.inl F4_25) rfl rfl ((((rd1 e_ι41 (by decide)).trans (rd1 e_ι31 (by decide))).trans (rd1 e_ι21 (by decide))).trans hP) ?_
  refine x_iload_n 1 DX4_add_50 rfl rfl ?_
  refine x_iconst (-1) DX4_add_51 (by decide) ?_
  refine x_icmp_ne 59 DX4_add_52 (by decide) (fun c_52 => ?_) (fun c_52 => ?_)
  · refine x_iload_n 2 DX4_add_59 rfl rfl ?_
    refine x_bipush 60 DX4_add_60 (by decide) ?_
    refine x_iadd DX4_add_62 ?_
    refine x_bipush 30 DX4_add_63 (by decide) ?_
    refine x_imul DX4_add_65 ?_
    refine x_aload_n 0 DX4_add_66 rfl rfl ?_
    refine x_geti (v := (nI np)) 4 DX4_add_67 (Or.inl F4_25) rfl rfl ((((rd1 e_ι41 (by decide)).trans (rd1 e_ι31 (by decide))).trans (rd1 e_ι21 (by decide))).trans hP) ?_
    refine x_iadd DX4_add_70 ?_
    refine x_iast np (nI_cl1 (by omega)) DX4_add_71 rfl (gIn.fx hF (c := 35) (n := 30) rfl (gIn_nI (by omega) (by omega))) (fun ι71 e_ι71 => ?_)
    refine x_aload_n 0 DX4_add_72 rfl rfl ?_
    refine x_dup DX4_add_73 ?_
    refine x_geti (v := (nI np)) 4 DX4_add_74 (Or.inl F4_25) rfl rfl (((((rd1 e_ι71 (by decide)).trans (rd1 e_ι41 (by decide))).trans (rd1 e_ι31 (by decide))).trans (rd1 e_ι21 (by decide))).trans hP) ?_
    refine x_dup_x1 DX4_add_77 ?_
    refine x_iconst 1 DX4_add_78 (by decide) ?_
    refine x_iadd DX4_add_79 ?_
    refine x_puti 4 DX4_add_80 F4_25 rfl (Or.inl rfl) rfl (fun ι80 e_ι80 => ?_)
    exact x_ireturn DX4_add_83 rfl ⟨rfl, by subst_vars; grind [xAdd], rfl, rfl⟩
  · refine x_iconst 0 DX4_add_55 (by decide) ?_
    refine x_goto 63 DX4_add_56 (by decide) ?_
    refine x_bipush 30 DX4_add_63 (by decide) ?_
    refine x_imul DX4_add_65 ?_
    refine x_aload_n 0 DX4_add_66 rfl rfl ?_
    refine x_geti (v := (nI np)) 4 DX4_add_67 (Or.inl F4_25) rfl rfl ((((rd1 e_ι41 (by decide)).trans (rd1 e_ι31 (by decide))).trans (rd1 e_ι21 (by decide))).trans hP) ?_
    refine x_iadd DX4_add_70 ?_
    refine x_iast np (nI_cl1 (by omega)) DX4_add_71 rfl (gIn.fx hF (c := 35) (n := 30) rfl (gIn_nI (by omega) (by omega))) (fun ι71 e_ι71 => ?_)
    refine x_aload_n 0 DX4_add_72 rfl rfl ?_
    refine x_dup DX4_add_73 ?_
    refine x_geti (v := (nI np)) 4 DX4_add_74 (Or.inl F4_25) rfl rfl (((((rd1 e_ι71 (by decide)).trans (rd1 e_ι41 (by decide))).trans (rd1 e_ι31 (by decide))).trans (rd1 e_ι21 (by decide))).trans hP) ?_
    refine x_dup_x1 DX4_add_77 ?_
    refine x_iconst 1 DX4_add_78 (by decide) ?_
    refine x_iadd DX4_add_79 ?_
    refine x_puti 4 DX4_add_80 F4_25 rfl (Or.inl rfl) rfl (fun ι80 e_ι80 => ?_)
    exact x_ireturn DX4_add_83 rfl ⟨rfl, by subst_vars; grind [xAdd], rfl, rfl⟩
theorem x_person (K : gK) (p b : Int32) (ι : gIm) (ρ : gRm) (Λ : gLm) (hF : gFix ρ Λ) (np : Nat) (hP : ι 31 4 = nI np) (hp : np ≤ 30) (hle4 : nI np ≤ 30) : gCe K 3 0 0 jX11_person [vR 0, vI p, vI b] ι ρ Λ (some (vI (rs (cPerson p b (nI np) (ι 33 p.toNatClampNeg)) (nI np)))) (rsM (cPerson p b (nI np) (ι 33 p.toNatClampNeg)) 1 ι (xAdd ι np p b)) ρ Λ := by
  refine gC_of (by decide) (nle rfl) ?_
  refine x_iload_n 1 DX11_person_0 rfl rfl ?_
  refine x_iconst (-1) DX11_person_1 (by decide) ?_
  refine x_icmp_eq 22 DX11_person_2 (by decide) (fun c_2 => ?_) (fun c_2 => ?_)
  · refine x_iload_n 2 DX11_person_22 rfl rfl ?_
    refine x_bipush (-60) DX11_person_23 (by decide) ?_
    refine x_bipush 60 DX11_person_25 (by decide) ?_
    refine x_Se (av := [vI b, vI (-60), vI 60]) (rest := []) (st' := [vI (wr b (-60) 60)]) 0 0 DX11_person_27 L11_83 rfl rfl ⟨nle rfl, nle rfl, nle rfl⟩ ⟨rfl, nle rfl⟩ ⟨rfl, nle rfl⟩ (x_misfit K b (-60) 60 ι ρ Λ) rfl ?_
    refine x_istore_n 3 (lv' := [some (vR 0), some (vI p), some (vI b), some (vI (wr b (-60) 60))]) DX11_person_30 rfl ⟨nlt rfl, nlt rfl⟩ rfl ?_
    refine x_iload_n 3 DX11_person_31 rfl rfl ?_
    refine x_if_ne 50 DX11_person_32 (by decide) (fun c_32 => ?_) (fun c_32 => ?_)
    · refine x_iload_n 3 DX11_person_50 rfl rfl ?_
      refine x_if_ne 74 DX11_person_51 (by decide) (fun c_51 => ?_) (fun c_51 => False.elim (by grind))
      refine x_iload_n 3 DX11_person_74 rfl rfl ?_
      refine x_if_eq 86 DX11_person_75 (by decide) (fun c_75 => False.elim (by grind)) (fun c_75 => ?_)
      refine x_aload_n 0 DX11_person_78 rfl rfl ?_
      refine x_iload_n 3 DX11_person_79 rfl rfl ?_
      refine x_Ve (ci := 11) (av := [vI (wr b (-60) 60)]) (rest := []) (st' := [vI (wr b (-60) 60)]) 0 0 DX11_person_80 L11_72 rfl rfl rfl rfl rfl ⟨nle rfl, nle rfl, nle rfl⟩ ⟨rfl, nle rfl⟩ ⟨rfl, nle rfl⟩ (x_refuse K (wr b (-60) 60) ι ρ Λ hF (wr_in _ _ _ (by assumption))) rfl ?_
      refine x_nmι (fun ι80 e_ι80 => ?_)
      refine x_goto 95 DX11_person_83 (by decide) ?_
      exact x_ireturn DX11_person_95 rfl ⟨by grind [cPerson, wr, rs], by grind [cPerson, wr, rsM], rfl, rfl⟩
    · refine x_aload_n 0 DX11_person_35 rfl rfl ?_
      refine x_getr 8 (some 31) DX11_person_36 (Or.inr F11_67) rfl rfl (hF.1 0 8 31 rfl) ?_
      refine x_geti (v := (nI np)) 4 DX11_person_39 (Or.inl F11_284) rfl rfl hP ?_
      refine x_bipush 30 DX11_person_42 (by decide) ?_
      refine x_icmp_lt 50 DX11_person_44 (by decide) (fun c_44 => ?_) (fun c_44 => ?_)
      · refine x_iload_n 3 DX11_person_50 rfl rfl ?_
        refine x_if_ne 74 DX11_person_51 (by decide) (fun c_51 => False.elim (by grind)) (fun c_51 => ?_)
        refine x_iload_n 1 DX11_person_54 rfl rfl ?_
        refine x_iconst (-1) DX11_person_55 (by decide) ?_
        refine x_icmp_eq 74 DX11_person_56 (by decide) (fun c_56 => ?_) (fun c_56 => False.elim (by grind))
        refine x_iload_n 3 DX11_person_74 rfl rfl ?_
        refine x_if_eq 86 DX11_person_75 (by decide) (fun c_75 => ?_) (fun c_75 => False.elim (by grind))
        refine x_aload_n 0 DX11_person_86 rfl rfl ?_
        refine x_getr 8 (some 31) DX11_person_87 (Or.inr F11_67) rfl rfl (hF.1 0 8 31 rfl) ?_
        refine x_iload_n 1 DX11_person_90 rfl rfl ?_
        refine x_iload_n 2 DX11_person_91 rfl rfl ?_
        refine x_Ve (ci := 4) (av := [vI p, vI b]) (rest := []) (st' := [vI (nI np)]) 0 0 DX11_person_92 L11_288 rfl rfl rfl rfl rfl ⟨nle rfl, nle rfl, nle rfl⟩ ⟨rfl, nle rfl⟩ ⟨rfl, nle rfl⟩ (x_addP K p b ι ρ Λ hF np hP (lt_lit (x := 30) rfl (by grind) hp)) rfl ?_
        refine x_nmι (fun ι92 e_ι92 => ?_)
        exact x_ireturn DX11_person_95 rfl ⟨by grind [cPerson, wr, rs], by grind [cPerson, wr, rsM], rfl, rfl⟩
      · refine x_bipush (-6) DX11_person_47 (by decide) ?_
        refine x_istore_n 3 (lv' := [some (vR 0), some (vI p), some (vI b), some (vI (-6))]) DX11_person_49 rfl ⟨nlt rfl, nlt rfl⟩ rfl ?_
        refine x_iload_n 3 DX11_person_50 rfl rfl ?_
        refine x_if_ne 74 DX11_person_51 (by decide) (fun _ => ?_) (fun h => absurd h (by decide))
        refine x_iload_n 3 DX11_person_74 rfl rfl ?_
        refine x_if_eq 86 DX11_person_75 (by decide) (fun h => absurd h (by decide)) (fun _ => ?_)
        refine x_aload_n 0 DX11_person_78 rfl rfl ?_
        refine x_iload_n 3 DX11_person_79 rfl rfl ?_
        refine x_Ve (ci := 11) (av := [vI (-6)]) (rest := []) (st' := [vI (-6)]) 0 0 DX11_person_80 L11_72 rfl rfl rfl rfl rfl ⟨nle rfl, nle rfl, nle rfl⟩ ⟨rfl, nle rfl⟩ ⟨rfl, nle rfl⟩ (x_refuse K (-6) ι ρ Λ hF ⟨by decide, by decide⟩) rfl ?_
        refine x_nmι (fun ι80 e_ι80 => ?_)
        refine x_goto 95 DX11_person_83 (by decide) ?_
        exact x_ireturn DX11_person_95 rfl ⟨by grind [cPerson, wr, rs], by grind [cPerson, wr, rsM], rfl, rfl⟩
  · refine x_aload_n 0 DX11_person_5 rfl rfl ?_
    refine x_getr 8 (some 31) DX11_person_6 (Or.inr F11_67) rfl rfl (hF.1 0 8 31 rfl) ?_
    refine x_iload_n 1 DX11_person_9 rfl rfl ?_
    refine x_Ve (ci := 4) (av := [vI p]) (rest := []) (st' := [vI (b2i (0 ≤ p ∧ p < nI np))]) 0 0 DX11_person_10 L11_281 rfl rfl rfl rfl rfl ⟨nle rfl, nle rfl, nle rfl⟩ ⟨rfl, nle rfl⟩ ⟨rfl, nle rfl⟩ (x_isKnown K p ι ρ Λ np hP hp) rfl ?_
    refine x_if_ne_b 22 DX11_person_13 (by decide) (fun c_13 => ?_) (fun c_13 => ?_)
    · refine x_iload_n 2 DX11_person_22 rfl rfl ?_
      refine x_bipush (-60) DX11_person_23 (by decide) ?_
      refine x_bipush 60 DX11_person_25 (by decide) ?_
      refine x_Se (av := [vI b, vI (-60), vI 60]) (rest := []) (st' := [vI (wr b (-60) 60)]) 0 0 DX11_person_27 L11_83 rfl rfl ⟨nle rfl, nle rfl, nle rfl⟩ ⟨rfl, nle rfl⟩ ⟨rfl, nle rfl⟩ (x_misfit K b (-60) 60 ι ρ Λ) rfl ?_
      refine x_istore_n 3 (lv' := [some (vR 0), some (vI p), some (vI b), some (vI (wr b (-60) 60))]) DX11_person_30 rfl ⟨nlt rfl, nlt rfl⟩ rfl ?_
      refine x_iload_n 3 DX11_person_31 rfl rfl ?_
      refine x_if_ne 50 DX11_person_32 (by decide) (fun c_32 => ?_) (fun c_32 => ?_)
      · refine x_iload_n 3 DX11_person_50 rfl rfl ?_
        refine x_if_ne 74 DX11_person_51 (by decide) (fun c_51 => ?_) (fun c_51 => False.elim (by grind))
        refine x_iload_n 3 DX11_person_74 rfl rfl ?_
        refine x_if_eq 86 DX11_person_75 (by decide) (fun c_75 => False.elim (by grind)) (fun c_75 => ?_)
        refine x_aload_n 0 DX11_person_78 rfl rfl ?_
        refine x_iload_n 3 DX11_person_79 rfl rfl ?_
        refine x_Ve (ci := 11) (av := [vI (wr b (-60) 60)]) (rest := []) (st' := [vI (wr b (-60) 60)]) 0 0 DX11_person_80 L11_72 rfl rfl rfl rfl rfl ⟨nle rfl, nle rfl, nle rfl⟩ ⟨rfl, nle rfl⟩ ⟨rfl, nle rfl⟩ (x_refuse K (wr b (-60) 60) ι ρ Λ hF (wr_in _ _ _ (by assumption))) rfl ?_
        refine x_nmι (fun ι80 e_ι80 => ?_)
        refine x_goto 95 DX11_person_83 (by decide) ?_
        exact x_ireturn DX11_person_95 rfl ⟨by grind [cPerson, wr, rs], by grind [cPerson, wr, rsM], rfl, rfl⟩
      · refine x_aload_n 0 DX11_person_35 rfl rfl ?_
        refine x_getr 8 (some 31) DX11_person_36 (Or.inr F11_67) rfl rfl (hF.1 0 8 31 rfl) ?_
        refine x_geti (v := (nI np)) 4 DX11_person_39 (Or.inl F11_284) rfl rfl hP ?_
        refine x_bipush 30 DX11_person_42 (by decide) ?_
        refine x_icmp_lt 50 DX11_person_44 (by decide) (fun c_44 => ?_) (fun c_44 => ?_)
        · refine x_iload_n 3 DX11_person_50 rfl rfl ?_
          refine x_if_ne 74 DX11_person_51 (by decide) (fun c_51 => False.elim (by grind)) (fun c_51 => ?_)
          refine x_iload_n 1 DX11_person_54 rfl rfl ?_
          refine x_iconst (-1) DX11_person_55 (by decide) ?_
          refine x_icmp_eq 74 DX11_person_56 (by decide) (fun c_56 => False.elim (by grind)) (fun c_56 => ?_)
          refine x_iload_n 2 DX11_person_59 rfl rfl ?_
          refine x_aload_n 0 DX11_person_60 rfl rfl ?_
          refine x_getr 8 (some 31) DX11_person_61 (Or.inr F11_67) rfl rfl (hF.1 0 8 31 rfl) ?_
          refine x_iload_n 1 DX11_person_64 rfl rfl ?_
          refine x_Ve (ci := 4) (av := [vI p]) (rest := [vI b]) (st' := [vI (if 0 ≤ p ∧ p < nI np then ι 33 p.toNatClampNeg else 0), vI b]) 0 0 DX11_person_65 L11_285 rfl rfl rfl rfl rfl ⟨nle rfl, nle rfl, nle rfl⟩ ⟨rfl, nle rfl⟩ ⟨rfl, nle rfl⟩ (x_birthOf K p ι ρ Λ hF np hP hp) rfl ?_
          refine x_icmp_ge 74 DX11_person_68 (by decide) (fun c_68 => ?_) (fun c_68 => ?_)
          · refine x_iload_n 3 DX11_person_74 rfl rfl ?_
            refine x_if_eq 86 DX11_person_75 (by decide) (fun c_75 => ?_) (fun c_75 => False.elim (by grind))
            refine x_aload_n 0 DX11_person_86 rfl rfl ?_
            refine x_getr 8 (some 31) DX11_person_87 (Or.inr F11_67) rfl rfl (hF.1 0 8 31 rfl) ?_
            refine x_iload_n 1 DX11_person_90 rfl rfl ?_
            refine x_iload_n 2 DX11_person_91 rfl rfl ?_
            refine x_Ve (ci := 4) (av := [vI p, vI b]) (rest := []) (st' := [vI (nI np)]) 0 0 DX11_person_92 L11_288 rfl rfl rfl rfl rfl ⟨nle rfl, nle rfl, nle rfl⟩ ⟨rfl, nle rfl⟩ ⟨rfl, nle rfl⟩ (x_addP K p b ι ρ Λ hF np hP (lt_lit (x := 30) rfl (by grind) hp)) rfl ?_
            refine x_nmι (fun ι92 e_ι92 => ?_)
            exact x_ireturn DX11_person_95 rfl ⟨by grind [cPerson, wr, rs], by grind [cPerson, wr, rsM], rfl, rfl⟩
          · refine x_bipush (-3) DX11_person_71 (by decide) ?_
            refine x_istore_n 3 (lv' := [some (vR 0), some (vI p), some (vI b), some (vI (-3))]) DX11_person_73 rfl ⟨nlt rfl, nlt rfl⟩ rfl ?_
            refine x_iload_n 3 DX11_person_74 rfl rfl ?_
            refine x_if_eq 86 DX11_person_75 (by decide) (fun h => absurd h (by decide)) (fun _ => ?_)
            refine x_aload_n 0 DX11_person_78 rfl rfl ?_
            refine x_iload_n 3 DX11_person_79 rfl rfl ?_
            refine x_Ve (ci := 11) (av := [vI (-3)]) (rest := []) (st' := [vI (-3)]) 0 0 DX11_person_80 L11_72 rfl rfl rfl rfl rfl ⟨nle rfl, nle rfl, nle rfl⟩ ⟨rfl, nle rfl⟩ ⟨rfl, nle rfl⟩ (x_refuse K (-3) ι ρ Λ hF ⟨by decide, by decide⟩) rfl ?_
            refine x_nmι (fun ι80 e_ι80 => ?_)
            refine x_goto 95 DX11_person_83 (by decide) ?_
            exact x_ireturn DX11_person_95 rfl ⟨by grind [cPerson, wr, rs], by grind [cPerson, wr, rsM], rfl, rfl⟩
        · refine x_bipush (-6) DX11_person_47 (by decide) ?_
          refine x_istore_n 3 (lv' := [some (vR 0), some (vI p), some (vI b), some (vI (-6))]) DX11_person_49 rfl ⟨nlt rfl, nlt rfl⟩ rfl ?_
          refine x_iload_n 3 DX11_person_50 rfl rfl ?_
          refine x_if_ne 74 DX11_person_51 (by decide) (fun _ => ?_) (fun h => absurd h (by decide))
          refine x_iload_n 3 DX11_person_74 rfl rfl ?_
          refine x_if_eq 86 DX11_person_75 (by decide) (fun h => absurd h (by decide)) (fun _ => ?_)
          refine x_aload_n 0 DX11_person_78 rfl rfl ?_
          refine x_iload_n 3 DX11_person_79 rfl rfl ?_
          refine x_Ve (ci := 11) (av := [vI (-6)]) (rest := []) (st' := [vI (-6)]) 0 0 DX11_person_80 L11_72 rfl rfl rfl rfl rfl ⟨nle rfl, nle rfl, nle rfl⟩ ⟨rfl, nle rfl⟩ ⟨rfl, nle rfl⟩ (x_refuse K (-6) ι ρ Λ hF ⟨by decide, by decide⟩) rfl ?_
          refine x_nmι (fun ι80 e_ι80 => ?_)
          refine x_goto 95 DX11_person_83 (by decide) ?_
          exact x_ireturn DX11_person_95 rfl ⟨by grind [cPerson, wr, rs], by grind [cPerson, wr, rsM], rfl, rfl⟩
    · refine x_aload_n 0 DX11_person_16 rfl rfl ?_
      refine x_iconst (-1) DX11_person_17 (by decide) ?_
      refine x_Ve (ci := 11) (av := [vI (-1)]) (rest := []) (st' := [vI (-1)]) 0 0 DX11_person_18 L11_72 rfl rfl rfl rfl rfl ⟨nle rfl, nle rfl, nle rfl⟩ ⟨rfl, nle rfl⟩ ⟨rfl, nle rfl⟩ (x_refuse K (-1) ι ρ Λ hF ⟨by decide, by decide⟩) rfl ?_
      refine x_nmι (fun ι18 e_ι18 => ?_)
      exact x_ireturn DX11_person_21 rfl ⟨by grind [cPerson, wr, rs], by grind [cPerson, wr, rsM], rfl, rfl⟩
theorem x_turnP (K : gK) (i on : Int32) (ι : gIm) (ρ : gRm) (Λ : gLm) (hF : gFix ρ Λ) (np : Nat) (hP : ι 31 4 = nI np) (hp : np ≤ 30) (hon : on = 0 ∨ on = 1) : gCe K 2 0 0 jX4_turn [vR 31, vI i, vI on] ι ρ Λ (some (vI (b2i ((0 ≤ i ∧ i < nI np) ∧ ¬ ι 34 i.toNatClampNeg = on)))) (if (0 ≤ i ∧ i < nI np) ∧ ¬ ι 34 i.toNatClampNeg = on then up2 ι 34 i.toNatClampNeg on else ι) ρ Λ := by
  refine gC_of (by decide) (nle rfl) ?_
  refine x_aload_n 0 DX4_turn_0 rfl rfl ?_
  refine x_iload_n 1 DX4_turn_1 rfl rfl ?_
  refine x_Ve (ci := 4) (av := [vI i]) (rest := []) (st' := [vI (b2i (0 ≤ i ∧ i < nI np))]) 0 0 DX4_turn_2 L4_29 rfl rfl rfl rfl rfl ⟨nle rfl, nle rfl, nle rfl⟩ ⟨rfl, nle rfl⟩ ⟨rfl, nle rfl⟩ (x_isKnown K i ι ρ Λ np hP hp) rfl ?_
  refine x_if_eq_b 18 DX4_turn_5 (by decide) (fun c_5 => ?_) (fun c_5 => ?_)
  · refine x_iconst 0 DX4_turn_18 (by decide) ?_
    exact x_zreturn DX4_turn_19 rfl (Or.inl rfl) ⟨by grind [b2i], by grind, rfl, rfl⟩
  · refine x_aload_n 0 DX4_turn_8 rfl rfl ?_
    refine x_getr 2 (some 34) DX4_turn_9 (Or.inr F4_18) rfl rfl (hF.1 31 2 34 rfl) ?_
    refine x_iload_n 1 DX4_turn_12 rfl rfl ?_
    refine x_zald (v := (ι 34 i.toNatClampNeg)) i.toNatClampNeg rfl DX4_turn_13 rfl (gIn.fx hF (c := 34) (n := 30) rfl (gIn_nn (m := 30) (k := i) (n := np) (by assumption) hp (by omega))) rfl ?_
    refine x_iload_n 2 DX4_turn_14 rfl rfl ?_
    refine x_icmp_ne 20 DX4_turn_15 (by decide) (fun c_15 => ?_) (fun c_15 => ?_)
    · refine x_aload_n 0 DX4_turn_20 rfl rfl ?_
      refine x_getr 2 (some 34) DX4_turn_21 (Or.inr F4_18) rfl rfl (hF.1 31 2 34 rfl) ?_
      refine x_iload_n 1 DX4_turn_24 rfl rfl ?_
      refine x_iload_n 2 DX4_turn_25 rfl rfl ?_
      refine x_zast i.toNatClampNeg rfl DX4_turn_26 rfl (gIn.fx hF (c := 34) (n := 30) rfl (gIn_nn (m := 30) (k := i) (n := np) (by assumption) hp (by omega))) hon (fun ι26 e_ι26 => ?_)
      refine x_iconst 1 DX4_turn_27 (by decide) ?_
      exact x_zreturn DX4_turn_28 rfl (Or.inr rfl) ⟨by grind [b2i], by grind, rfl, rfl⟩
    · refine x_iconst 0 DX4_turn_18 (by decide) ?_
      exact x_zreturn DX4_turn_19 rfl (Or.inl rfl) ⟨by grind [b2i], by grind, rfl, rfl⟩
theorem x_alive (K : gK) (p on : Int32) (ι : gIm) (ρ : gRm) (Λ : gLm) (hF : gFix ρ Λ) (np : Nat) (hP : ι 31 4 = nI np) (hp : np ≤ 30) (hon : on = 0 ∨ on = 1) : gCe K 3 0 0 jX11_alive [vR 0, vI p, vI on] ι ρ Λ (some (vI (rs (cIs p (nI np)) (if ι 34 p.toNatClampNeg = on then 0 else 1)))) (rsM (cIs p (nI np)) 1 ι (if ι 34 p.toNatClampNeg = on then ι else up2 ι 34 p.toNatClampNeg on)) ρ Λ := by
  refine gC_of (by decide) (nle rfl) ?_
  refine x_aload_n 0 DX11_alive_0 rfl rfl ?_
  refine x_getr 8 (some 31) DX11_alive_1 (Or.inr F11_67) rfl rfl (hF.1 0 8 31 rfl) ?_
  refine x_iload_n 1 DX11_alive_4 rfl rfl ?_
  refine x_Ve (ci := 4) (av := [vI p]) (rest := []) (st' := [vI (b2i (0 ≤ p ∧ p < nI np))]) 0 0 DX11_alive_5 L11_281 rfl rfl rfl rfl rfl ⟨nle rfl, nle rfl, nle rfl⟩ ⟨rfl, nle rfl⟩ ⟨rfl, nle rfl⟩ (x_isKnown K p ι ρ Λ np hP hp) rfl ?_
  refine x_if_ne_b 17 DX11_alive_8 (by decide) (fun c_8 => ?_) (fun c_8 => ?_)
  · refine x_aload_n 0 DX11_alive_17 rfl rfl ?_
    refine x_getr 8 (some 31) DX11_alive_18 (Or.inr F11_67) rfl rfl (hF.1 0 8 31 rfl) ?_
    refine x_iload_n 1 DX11_alive_21 rfl rfl ?_
    refine x_iload_n 2 DX11_alive_22 rfl rfl ?_
    refine x_Ve (ci := 4) (av := [vI p, vI on]) (rest := []) (st' := [vI (b2i ((0 ≤ p ∧ p < nI np) ∧ ¬ ι 34 p.toNatClampNeg = on))]) 0 0 DX11_alive_23 L11_291 rfl rfl rfl rfl rfl ⟨nle rfl, nle rfl, nle rfl⟩ ⟨rfl, nle rfl⟩ ⟨rfl, nle rfl⟩ (x_turnP K p on ι ρ Λ hF np hP hp hon) rfl ?_
    refine x_nmι (fun ι23 e_ι23 => ?_)
    refine x_if_eq_b 33 DX11_alive_26 (by decide) (fun c_26 => ?_) (fun c_26 => ?_)
    · refine x_iconst 0 DX11_alive_33 (by decide) ?_
      exact x_ireturn DX11_alive_34 rfl ⟨by grind [cIs, rs], by grind [cIs, rsM], rfl, rfl⟩
    · refine x_iconst 1 DX11_alive_29 (by decide) ?_
      refine x_goto 34 DX11_alive_30 (by decide) ?_
      exact x_ireturn DX11_alive_34 rfl ⟨by grind [cIs, rs], by grind [cIs, rsM], rfl, rfl⟩
  · refine x_aload_n 0 DX11_alive_11 rfl rfl ?_
    refine x_iconst (-1) DX11_alive_12 (by decide) ?_
    refine x_Ve (ci := 11) (av := [vI (-1)]) (rest := []) (st' := [vI (-1)]) 0 0 DX11_alive_13 L11_72 rfl rfl rfl rfl rfl ⟨nle rfl, nle rfl, nle rfl⟩ ⟨rfl, nle rfl⟩ ⟨rfl, nle rfl⟩ (x_refuse K (-1) ι ρ Λ hF ⟨by decide, by decide⟩) rfl ?_
    refine x_nmι (fun ι13 e_ι13 => ?_)
    exact x_ireturn DX11_alive_16 rfl ⟨by grind [cIs, rs], by grind [cIs, rsM], rfl, rfl⟩
theorem x_nextOf (K : gK) (p r : Int32) (ι : gIm) (ρ : gRm) (Λ : gLm) (hF : gFix ρ Λ) (np : Nat) (hP : ι 31 4 = nI np) (hp : np ≤ 30) : gCe K 1 0 0 jX4_nextOf [vR 31, vI p, vI r] ι ρ Λ (some (vI (sNx (ι 32) (ι 35) np p r))) ι ρ Λ := by
  refine gC_of (by decide) (nle rfl) ?_
  refine x_bipush (-9) DX4_nextOf_0 (by decide) ?_
  refine x_istore_n 3 (lv' := [some (vR 31), some (vI p), some (vI r), some (vI (-9)), none, none]) DX4_nextOf_2 rfl ⟨nlt rfl, nlt rfl⟩ rfl ?_
  refine x_iconst 0 DX4_nextOf_3 (by decide) ?_
  refine x_istore (lv' := [some (vR 31), some (vI p), some (vI r), some (vI (-9)), some (vI 0), none]) DX4_nextOf_4 ⟨nlt rfl, nlt rfl⟩ rfl ?_
  refine x_lv (lv' := [some (vR 31), some (vI p), some (vI r), some (vI (-9)), some (vI (nI 0)), none]) (lvS (lvS (lvS (lvS (lvI nI_0.symm rfl))))) ?_
  refine lpJ (W := fun (i : Nat) (a : Int32) => gX K none 1 0 0 jX4_nextOf 6 [some (vR 31), some (vI p), some (vI r), some (vI a), some (vI (nI i)), none] [] 0 0 ι ρ Λ _) (sNx1 (ι 32) (ι 35) p r) (fun i a => a = -9 ∨ gIn a 30) np (fun i a hi hJ ih => ?_) (fun i a hi hJ => by unfold sNx1; split; exact Or.inr (gIn_nI (by omega) (by omega)); exact hJ) 0 (-9) (by omega) (Or.inl rfl) (fun hJ => ?_)
  · refine x_iload DX4_nextOf_6 rfl ?_
    refine x_aload_n 0 DX4_nextOf_8 rfl rfl ?_
    refine x_geti (v := (nI np)) 4 DX4_nextOf_9 (Or.inl F4_25) rfl rfl hP ?_
    refine x_icmp_ge 80 DX4_nextOf_12 (by decide) (fun c_12 => False.elim (by rw [nI_le1 (by omega) (by omega)] at c_12; omega)) (fun c_12 => ?_)
    refine x_aload_n 0 DX4_nextOf_15 rfl rfl ?_
    refine x_getr 0 (some 32) DX4_nextOf_16 (Or.inr F4_9) rfl rfl (hF.1 31 0 32 rfl) ?_
    refine x_iload DX4_nextOf_19 rfl ?_
    refine x_iald (v := (ι 32 i)) i (nI_cl1 (by omega)) DX4_nextOf_21 rfl (gIn.fx hF (c := 32) (n := 30) rfl (gIn_nI (by omega) (by omega))) rfl ?_
    refine x_iload_n 1 DX4_nextOf_22 rfl rfl ?_
    refine x_icmp_ne 41 DX4_nextOf_23 (by decide) (fun c_23 => ?_) (fun c_23 => ?_)
    · refine x_iconst 0 DX4_nextOf_41 (by decide) ?_
      refine x_istore (lv' := [some (vR 31), some (vI p), some (vI r), some (vI a), some (vI (nI i)), some (vI 0)]) DX4_nextOf_42 ⟨nlt rfl, nlt rfl⟩ rfl ?_
      refine x_iload DX4_nextOf_44 rfl ?_
      refine x_if_eq 74 DX4_nextOf_46 (by decide) (fun _ => ?_) (fun h => absurd h (by decide))
      refine x_iinc ((nI i) + 1) (lv' := [some (vR 31), some (vI p), some (vI r), some (vI a), some (vI ((nI i) + 1)), some (vI 0)]) DX4_nextOf_74 rfl rfl (nlt rfl) rfl ?_
      refine x_goto 6 DX4_nextOf_77 (by decide) ?_
      refine x_lv (lv' := [some (vR 31), some (vI p), some (vI r), some (vI (sNx1 (ι 32) (ι 35) p r i a)), some (vI (nI (i + 1))), some (vI 0)]) (lvS (lvS (lvS (lvI (by unfold sNx1; first | rw [if_neg (by grind)] | rw [if_pos (by grind)]) (lvI (nI_1 i) (lvS rfl)))))) ?_
      refine x_less (lv' := [some (vR 31), some (vI p), some (vI r), some (vI (sNx1 (ι 32) (ι 35) p r i a)), some (vI (nI (i + 1))), none]) (less_ok (m := [true, true, true, true, true, false]) rfl) ?_
      exact ih
    · refine x_aload_n 0 DX4_nextOf_26 rfl rfl ?_
      refine x_getr 3 (some 35) DX4_nextOf_27 (Or.inr F4_22) rfl rfl (hF.1 31 3 35 rfl) ?_
      refine x_iload DX4_nextOf_30 rfl ?_
      refine x_iald (v := (ι 35 i)) i (nI_cl1 (by omega)) DX4_nextOf_32 rfl (gIn.fx hF (c := 35) (n := 30) rfl (gIn_nI (by omega) (by omega))) rfl ?_
      refine x_iload_n 2 DX4_nextOf_33 rfl rfl ?_
      refine x_icmp_le 41 DX4_nextOf_34 (by decide) (fun c_34 => ?_) (fun c_34 => ?_)
      · refine x_iconst 0 DX4_nextOf_41 (by decide) ?_
        refine x_istore (lv' := [some (vR 31), some (vI p), some (vI r), some (vI a), some (vI (nI i)), some (vI 0)]) DX4_nextOf_42 ⟨nlt rfl, nlt rfl⟩ rfl ?_
        refine x_iload DX4_nextOf_44 rfl ?_
        refine x_if_eq 74 DX4_nextOf_46 (by decide) (fun _ => ?_) (fun h => absurd h (by decide))
        refine x_iinc ((nI i) + 1) (lv' := [some (vR 31), some (vI p), some (vI r), some (vI a), some (vI ((nI i) + 1)), some (vI 0)]) DX4_nextOf_74 rfl rfl (nlt rfl) rfl ?_
        refine x_goto 6 DX4_nextOf_77 (by decide) ?_
        refine x_lv (lv' := [some (vR 31), some (vI p), some (vI r), some (vI (sNx1 (ι 32) (ι 35) p r i a)), some (vI (nI (i + 1))), some (vI 0)]) (lvS (lvS (lvS (lvI (by unfold sNx1; first | rw [if_neg (by grind)] | rw [if_pos (by grind)]) (lvI (nI_1 i) (lvS rfl)))))) ?_
        refine x_less (lv' := [some (vR 31), some (vI p), some (vI r), some (vI (sNx1 (ι 32) (ι 35) p r i a)), some (vI (nI (i + 1))), none]) (less_ok (m := [true, true, true, true, true, false]) rfl) ?_
        exact ih
      · refine x_iconst 1 DX4_nextOf_37 (by decide) ?_
        refine x_goto 42 DX4_nextOf_38 (by decide) ?_
        refine x_istore (lv' := [some (vR 31), some (vI p), some (vI r), some (vI a), some (vI (nI i)), some (vI 1)]) DX4_nextOf_42 ⟨nlt rfl, nlt rfl⟩ rfl ?_
        refine x_iload DX4_nextOf_44 rfl ?_
        refine x_if_eq 74 DX4_nextOf_46 (by decide) (fun h => absurd h (by decide)) (fun _ => ?_)
        refine x_iload_n 3 DX4_nextOf_49 rfl rfl ?_
        refine x_bipush (-9) DX4_nextOf_50 (by decide) ?_
        refine x_icmp_eq 71 DX4_nextOf_52 (by decide) (fun c_52 => ?_) (fun c_52 => ?_)
        · refine x_iload DX4_nextOf_71 rfl ?_
          refine x_istore_n 3 (lv' := [some (vR 31), some (vI p), some (vI r), some (vI (nI i)), some (vI (nI i)), some (vI 1)]) DX4_nextOf_73 rfl ⟨nlt rfl, nlt rfl⟩ rfl ?_
          refine x_iinc ((nI i) + 1) (lv' := [some (vR 31), some (vI p), some (vI r), some (vI (nI i)), some (vI ((nI i) + 1)), some (vI 1)]) DX4_nextOf_74 rfl rfl (nlt rfl) rfl ?_
          refine x_goto 6 DX4_nextOf_77 (by decide) ?_
          refine x_lv (lv' := [some (vR 31), some (vI p), some (vI r), some (vI (sNx1 (ι 32) (ι 35) p r i a)), some (vI (nI (i + 1))), some (vI 1)]) (lvS (lvS (lvS (lvI (by unfold sNx1; first | rw [if_neg (by grind)] | rw [if_pos (by grind)]) (lvI (nI_1 i) (lvS rfl)))))) ?_
          refine x_less (lv' := [some (vR 31), some (vI p), some (vI r), some (vI (sNx1 (ι 32) (ι 35) p r i a)), some (vI (nI (i + 1))), none]) (less_ok (m := [true, true, true, true, true, false]) rfl) ?_
          exact ih
        · refine x_aload_n 0 DX4_nextOf_55 rfl rfl ?_
          refine x_getr 3 (some 35) DX4_nextOf_56 (Or.inr F4_22) rfl rfl (hF.1 31 3 35 rfl) ?_
          refine x_iload DX4_nextOf_59 rfl ?_
          refine x_iald (v := (ι 35 i)) i (nI_cl1 (by omega)) DX4_nextOf_61 rfl (gIn.fx hF (c := 35) (n := 30) rfl (gIn_nI (by omega) (by omega))) rfl ?_
          refine x_aload_n 0 DX4_nextOf_62 rfl rfl ?_
          refine x_getr 3 (some 35) DX4_nextOf_63 (Or.inr F4_22) rfl rfl (hF.1 31 3 35 rfl) ?_
          refine x_iload_n 3 DX4_nextOf_66 rfl rfl ?_
          refine x_iald (v := (ι 35 a.toNatClampNeg)) a.toNatClampNeg rfl DX4_nextOf_67 rfl (gIn.fx hF (c := 35) (n := 30) rfl (hJ.resolve_left (by assumption))) rfl ?_
          refine x_icmp_ge 74 DX4_nextOf_68 (by decide) (fun c_68 => ?_) (fun c_68 => ?_)
          · refine x_iinc ((nI i) + 1) (lv' := [some (vR 31), some (vI p), some (vI r), some (vI a), some (vI ((nI i) + 1)), some (vI 1)]) DX4_nextOf_74 rfl rfl (nlt rfl) rfl ?_
            refine x_goto 6 DX4_nextOf_77 (by decide) ?_
            refine x_lv (lv' := [some (vR 31), some (vI p), some (vI r), some (vI (sNx1 (ι 32) (ι 35) p r i a)), some (vI (nI (i + 1))), some (vI 1)]) (lvS (lvS (lvS (lvI (by unfold sNx1; first | rw [if_neg (by grind)] | rw [if_pos (by grind)]) (lvI (nI_1 i) (lvS rfl)))))) ?_
            refine x_less (lv' := [some (vR 31), some (vI p), some (vI r), some (vI (sNx1 (ι 32) (ι 35) p r i a)), some (vI (nI (i + 1))), none]) (less_ok (m := [true, true, true, true, true, false]) rfl) ?_
            exact ih
          · refine x_iload DX4_nextOf_71 rfl ?_
            refine x_istore_n 3 (lv' := [some (vR 31), some (vI p), some (vI r), some (vI (nI i)), some (vI (nI i)), some (vI 1)]) DX4_nextOf_73 rfl ⟨nlt rfl, nlt rfl⟩ rfl ?_
            refine x_iinc ((nI i) + 1) (lv' := [some (vR 31), some (vI p), some (vI r), some (vI (nI i)), some (vI ((nI i) + 1)), some (vI 1)]) DX4_nextOf_74 rfl rfl (nlt rfl) rfl ?_
            refine x_goto 6 DX4_nextOf_77 (by decide) ?_
            refine x_lv (lv' := [some (vR 31), some (vI p), some (vI r), some (vI (sNx1 (ι 32) (ι 35) p r i a)), some (vI (nI (i + 1))), some (vI 1)]) (lvS (lvS (lvS (lvI (by unfold sNx1; first | rw [if_neg (by grind)] | rw [if_pos (by grind)]) (lvI (nI_1 i) (lvS rfl)))))) ?_
            refine x_less (lv' := [some (vR 31), some (vI p), some (vI r), some (vI (sNx1 (ι 32) (ι 35) p r i a)), some (vI (nI (i + 1))), none]) (less_ok (m := [true, true, true, true, true, false]) rfl) ?_
            exact ih
  · show gX K none 1 0 0 jX4_nextOf 6 [some (vR 31), some (vI p), some (vI r), some (vI (sNx (ι 32) (ι 35) np p r)), some (vI (nI np)), none] [] 0 0 ι ρ Λ _
    refine x_iload DX4_nextOf_6 rfl ?_
    refine x_aload_n 0 DX4_nextOf_8 rfl rfl ?_
    refine x_geti (v := (nI np)) 4 DX4_nextOf_9 (Or.inl F4_25) rfl rfl hP ?_
    refine x_icmp_ge 80 DX4_nextOf_12 (by decide) (fun c_12 => ?_) (fun c_12 => False.elim (c_12 (nI_le (by omega) (by omega))))
    refine x_iload_n 3 DX4_nextOf_80 rfl rfl ?_
    exact x_ireturn DX4_nextOf_81 rfl ⟨rfl, rfl, rfl, rfl⟩
theorem x_behind (K : gK) (p : Int32) (ι : gIm) (ρ : gRm) (Λ : gLm) (hF : gFix ρ Λ) (np : Nat) (hP : ι 31 4 = nI np) (hp : np ≤ 30) : gCe K 2 0 0 jX4_behind [vR 31, vI p] ι ρ Λ (some (vI (sBeh (ι 32) (ι 35) np 30 p (sNx (ι 32) (ι 35) np p (-1))))) ι ρ Λ := by
  refine gC_of (by decide) (nle rfl) ?_
  refine x_aload_n 0 DX4_behind_0 rfl rfl ?_
  refine x_iload_n 1 DX4_behind_1 rfl rfl ?_
  refine x_iconst (-1) DX4_behind_2 (by decide) ?_
  refine x_Ve (ci := 4) (av := [vI p, vI (-1)]) (rest := []) (st' := [vI (sNx (ι 32) (ι 35) np p (-1))]) 0 0 DX4_behind_3 L4_33 rfl rfl rfl rfl rfl ⟨nle rfl, nle rfl, nle rfl⟩ ⟨rfl, nle rfl⟩ ⟨rfl, nle rfl⟩ (x_nextOf K p (-1) ι ρ Λ hF np hP hp) rfl ?_
  refine x_istore_n 2 (lv' := [some (vR 31), some (vI p), some (vI (sNx (ι 32) (ι 35) np p (-1))), none, none]) DX4_behind_6 rfl ⟨nlt rfl, nlt rfl⟩ rfl ?_
  refine x_iload_n 1 DX4_behind_7 rfl rfl ?_
  refine x_istore_n 3 (lv' := [some (vR 31), some (vI p), some (vI (sNx (ι 32) (ι 35) np p (-1))), some (vI p), none]) DX4_behind_8 rfl ⟨nlt rfl, nlt rfl⟩ rfl ?_
  refine x_iconst 0 DX4_behind_9 (by decide) ?_
  refine x_istore (lv' := [some (vR 31), some (vI p), some (vI (sNx (ι 32) (ι 35) np p (-1))), some (vI p), some (vI 0)]) DX4_behind_10 ⟨nlt rfl, nlt rfl⟩ rfl ?_
  have loop : ∀ (n i : Nat) (f nx : Int32), i + n = 30 → sBeh (ι 32) (ι 35) np n f nx = sBeh (ι 32) (ι 35) np 30 p (sNx (ι 32) (ι 35) np p (-1)) → gX K none 2 0 0 jX4_behind 12 [some (vR 31), some (vI p), some (vI nx), some (vI f), some (vI (nI i))] [] 0 0 ι ρ Λ (fun r2 a b c => r2 = (some (vI (sBeh (ι 32) (ι 35) np 30 p (sNx (ι 32) (ι 35) np p (-1))))) ∧ a = ι ∧ b = ρ ∧ c = Λ) := by
    intro n
    induction n with
    | zero =>
      intro i f nx hi he
      refine x_iload DX4_behind_12 rfl ?_
      refine x_bipush 30 DX4_behind_14 (by decide) ?_
      refine x_icmp_ge 63 DX4_behind_16 (by decide) (fun c_16 => ?_) (fun c_16 => False.elim (c_16 (by rw [show (30 : Int32) = nI 30 from rfl]; exact nI_le (by omega) (by omega))))
      refine x_iload_n 2 DX4_behind_63 rfl rfl ?_
      exact x_ireturn DX4_behind_64 rfl ⟨by rw [← he]; rfl, rfl, rfl, rfl⟩
    | succ n ih =>
      intro i f nx hi he
      rw [sBeh] at he
      refine x_iload DX4_behind_12 rfl ?_
      refine x_bipush 30 DX4_behind_14 (by decide) ?_
      refine x_icmp_ge 63 DX4_behind_16 (by decide) (fun c_16 => False.elim (by rw [show (30 : Int32) = nI 30 from rfl, nI_le1 (by omega) (by omega)] at c_16; omega)) (fun c_16 => ?_)
      refine x_iload_n 2 DX4_behind_19 rfl rfl ?_
      refine x_bipush (-9) DX4_behind_20 (by decide) ?_
      refine x_icmp_ne 63 DX4_behind_22 (by decide) (fun c_22 => ?_) (fun c_22 => ?_)
      · refine x_iload_n 2 DX4_behind_63 rfl rfl ?_
        exact x_ireturn DX4_behind_64 rfl ⟨by rw [if_neg (by grind)] at he; rw [← he], rfl, rfl, rfl⟩
      · refine x_aload_n 0 DX4_behind_25 rfl rfl ?_
        refine x_iload_n 3 DX4_behind_26 rfl rfl ?_
        refine x_Ve (ci := 4) (av := [vI f]) (rest := []) (st' := [vI (b2i (0 ≤ f ∧ f < nI np))]) 0 0 DX4_behind_27 L4_29 rfl rfl rfl rfl rfl ⟨nle rfl, nle rfl, nle rfl⟩ ⟨rfl, nle rfl⟩ ⟨rfl, nle rfl⟩ (x_isKnown K f ι ρ Λ np hP hp) rfl ?_
        refine x_if_eq_b 63 DX4_behind_30 (by decide) (fun c_30 => ?_) (fun c_30 => ?_)
        · refine x_iload_n 2 DX4_behind_63 rfl rfl ?_
          exact x_ireturn DX4_behind_64 rfl ⟨by rw [if_neg (by grind)] at he; rw [← he], rfl, rfl, rfl⟩
        · refine x_aload_n 0 DX4_behind_33 rfl rfl ?_
          refine x_aload_n 0 DX4_behind_34 rfl rfl ?_
          refine x_getr 0 (some 32) DX4_behind_35 (Or.inr F4_9) rfl rfl (hF.1 31 0 32 rfl) ?_
          refine x_iload_n 3 DX4_behind_38 rfl rfl ?_
          refine x_iald (v := (ι 32 f.toNatClampNeg)) f.toNatClampNeg rfl DX4_behind_39 rfl (gIn.fx hF (c := 32) (n := 30) rfl (gIn_nn (m := 30) (k := f) (n := np) (by assumption) hp (by omega))) rfl ?_
          refine x_aload_n 0 DX4_behind_40 rfl rfl ?_
          refine x_getr 3 (some 35) DX4_behind_41 (Or.inr F4_22) rfl rfl (hF.1 31 3 35 rfl) ?_
          refine x_iload_n 3 DX4_behind_44 rfl rfl ?_
          refine x_iald (v := (ι 35 f.toNatClampNeg)) f.toNatClampNeg rfl DX4_behind_45 rfl (gIn.fx hF (c := 35) (n := 30) rfl (gIn_nn (m := 30) (k := f) (n := np) (by assumption) hp (by omega))) rfl ?_
          refine x_Ve (ci := 4) (av := [vI (ι 32 f.toNatClampNeg), vI (ι 35 f.toNatClampNeg)]) (rest := []) (st' := [vI (sNx (ι 32) (ι 35) np (ι 32 f.toNatClampNeg) (ι 35 f.toNatClampNeg))]) 0 0 DX4_behind_46 L4_33 rfl rfl rfl rfl rfl ⟨nle rfl, nle rfl, nle rfl⟩ ⟨rfl, nle rfl⟩ ⟨rfl, nle rfl⟩ (x_nextOf K (ι 32 f.toNatClampNeg) (ι 35 f.toNatClampNeg) ι ρ Λ hF np hP hp) rfl ?_
          refine x_istore_n 2 (lv' := [some (vR 31), some (vI p), some (vI (sNx (ι 32) (ι 35) np (ι 32 f.toNatClampNeg) (ι 35 f.toNatClampNeg))), some (vI f), some (vI (nI i))]) DX4_behind_49 rfl ⟨nlt rfl, nlt rfl⟩ rfl ?_
          refine x_aload_n 0 DX4_behind_50 rfl rfl ?_
          refine x_getr 0 (some 32) DX4_behind_51 (Or.inr F4_9) rfl rfl (hF.1 31 0 32 rfl) ?_
          refine x_iload_n 3 DX4_behind_54 rfl rfl ?_
          refine x_iald (v := (ι 32 f.toNatClampNeg)) f.toNatClampNeg rfl DX4_behind_55 rfl (gIn.fx hF (c := 32) (n := 30) rfl (gIn_nn (m := 30) (k := f) (n := np) (by assumption) hp (by omega))) rfl ?_
          refine x_istore_n 3 (lv' := [some (vR 31), some (vI p), some (vI (sNx (ι 32) (ι 35) np (ι 32 f.toNatClampNeg) (ι 35 f.toNatClampNeg))), some (vI (ι 32 f.toNatClampNeg)), some (vI (nI i))]) DX4_behind_56 rfl ⟨nlt rfl, nlt rfl⟩ rfl ?_
          refine x_iinc ((nI i) + 1) (lv' := [some (vR 31), some (vI p), some (vI (sNx (ι 32) (ι 35) np (ι 32 f.toNatClampNeg) (ι 35 f.toNatClampNeg))), some (vI (ι 32 f.toNatClampNeg)), some (vI ((nI i) + 1))]) DX4_behind_57 rfl rfl (nlt rfl) rfl ?_
          refine x_goto 12 DX4_behind_60 (by decide) ?_
          refine x_lv (lv' := [some (vR 31), some (vI p), some (vI (sNx (ι 32) (ι 35) np (ι 32 f.toNatClampNeg) (ι 35 f.toNatClampNeg))), some (vI (ι 32 f.toNatClampNeg)), some (vI (nI (i + 1)))]) (lvS (lvS (lvS (lvS (lvI (nI_1 i) rfl))))) ?_
          exact ih (i + 1) _ _ (by omega) (by rw [if_pos ⟨by assumption, by assumption⟩] at he; exact he)
  refine x_lv (lv' := [some (vR 31), some (vI p), some (vI (sNx (ι 32) (ι 35) np p (-1))), some (vI p), some (vI (nI 0))]) (lvS (lvS (lvS (lvS (lvI nI_0.symm rfl))))) ?_
  exact loop 30 0 p _ (by omega) rfl
theorem x_firstOfAge (K : gK) (year : Int32) (ι : gIm) (ρ : gRm) (Λ : gLm) (hF : gFix ρ Λ) (np : Nat) (hP : ι 31 4 = nI np) (hp : np ≤ 30) : gCe K 3 0 0 jX4_firstOfAge [vR 31, vI year] ι ρ Λ (some (vI (sFa (ι 32) (ι 35) (ι 33) (ι 34) np year np (sNx (ι 32) (ι 35) np (-1) (-1))))) ι ρ Λ := by
  refine gC_of (by decide) (nle rfl) ?_
  refine x_aload_n 0 DX4_firstOfAge_0 rfl rfl ?_
  refine x_iconst (-1) DX4_firstOfAge_1 (by decide) ?_
  refine x_iconst (-1) DX4_firstOfAge_2 (by decide) ?_
  refine x_Ve (ci := 4) (av := [vI (-1), vI (-1)]) (rest := []) (st' := [vI (sNx (ι 32) (ι 35) np (-1) (-1))]) 0 0 DX4_firstOfAge_3 L4_33 rfl rfl rfl rfl rfl ⟨nle rfl, nle rfl, nle rfl⟩ ⟨rfl, nle rfl⟩ ⟨rfl, nle rfl⟩ (x_nextOf K (-1) (-1) ι ρ Λ hF np hP hp) rfl ?_
  refine x_istore_n 2 (lv' := [some (vR 31), some (vI year), some (vI (sNx (ι 32) (ι 35) np (-1) (-1))), none]) DX4_firstOfAge_6 rfl ⟨nlt rfl, nlt rfl⟩ rfl ?_
  refine x_iconst 0 DX4_firstOfAge_7 (by decide) ?_
  refine x_istore_n 3 (lv' := [some (vR 31), some (vI year), some (vI (sNx (ι 32) (ι 35) np (-1) (-1))), some (vI 0)]) DX4_firstOfAge_8 rfl ⟨nlt rfl, nlt rfl⟩ rfl ?_
  have loop : ∀ (n i : Nat) (x : Int32), i + n = np → sFa (ι 32) (ι 35) (ι 33) (ι 34) np year n x = sFa (ι 32) (ι 35) (ι 33) (ι 34) np year np (sNx (ι 32) (ι 35) np (-1) (-1)) → gX K none 3 0 0 jX4_firstOfAge 9 [some (vR 31), some (vI year), some (vI x), some (vI (nI i))] [] 0 0 ι ρ Λ (fun r2 a b c => r2 = (some (vI (sFa (ι 32) (ι 35) (ι 33) (ι 34) np year np (sNx (ι 32) (ι 35) np (-1) (-1))))) ∧ a = ι ∧ b = ρ ∧ c = Λ) := by
    intro n
    induction n with
    | zero =>
      intro i x hi he
      refine x_iload_n 3 DX4_firstOfAge_9 rfl rfl ?_
      refine x_aload_n 0 DX4_firstOfAge_10 rfl rfl ?_
      refine x_geti (v := (nI np)) 4 DX4_firstOfAge_11 (Or.inl F4_25) rfl rfl hP ?_
      refine x_icmp_ge 61 DX4_firstOfAge_14 (by decide) (fun c_14 => ?_) (fun c_14 => False.elim (c_14 (nI_le (by omega) (by omega))))
      refine x_bipush (-9) DX4_firstOfAge_61 (by decide) ?_
      exact x_ireturn DX4_firstOfAge_63 rfl ⟨by rw [← he]; rfl, rfl, rfl, rfl⟩
    | succ n ih =>
      intro i x hi he
      rw [sFa] at he
      refine x_iload_n 3 DX4_firstOfAge_9 rfl rfl ?_
      refine x_aload_n 0 DX4_firstOfAge_10 rfl rfl ?_
      refine x_geti (v := (nI np)) 4 DX4_firstOfAge_11 (Or.inl F4_25) rfl rfl hP ?_
      refine x_icmp_ge 61 DX4_firstOfAge_14 (by decide) (fun c_14 => False.elim (by rw [nI_le1 (by omega) (by omega)] at c_14; omega)) (fun c_14 => ?_)
      refine x_aload_n 0 DX4_firstOfAge_17 rfl rfl ?_
      refine x_iload_n 2 DX4_firstOfAge_18 rfl rfl ?_
      refine x_Ve (ci := 4) (av := [vI x]) (rest := []) (st' := [vI (b2i (0 ≤ x ∧ x < nI np))]) 0 0 DX4_firstOfAge_19 L4_29 rfl rfl rfl rfl rfl ⟨nle rfl, nle rfl, nle rfl⟩ ⟨rfl, nle rfl⟩ ⟨rfl, nle rfl⟩ (x_isKnown K x ι ρ Λ np hP hp) rfl ?_
      refine x_if_eq_b 61 DX4_firstOfAge_22 (by decide) (fun c_22 => ?_) (fun c_22 => ?_)
      · refine x_bipush (-9) DX4_firstOfAge_61 (by decide) ?_
        exact x_ireturn DX4_firstOfAge_63 rfl ⟨by rw [if_neg (by assumption)] at he; rw [← he], rfl, rfl, rfl⟩
      · refine x_aload_n 0 DX4_firstOfAge_25 rfl rfl ?_
        refine x_getr 2 (some 34) DX4_firstOfAge_26 (Or.inr F4_18) rfl rfl (hF.1 31 2 34 rfl) ?_
        refine x_iload_n 2 DX4_firstOfAge_29 rfl rfl ?_
        refine x_zald (v := (ι 34 x.toNatClampNeg)) x.toNatClampNeg rfl DX4_firstOfAge_30 rfl (gIn.fx hF (c := 34) (n := 30) rfl (gIn_nn (m := 30) (k := x) (n := np) (by assumption) hp (by omega))) rfl ?_
        refine x_if_eq 49 DX4_firstOfAge_31 (by decide) (fun c_31 => ?_) (fun c_31 => ?_)
        · refine x_aload_n 0 DX4_firstOfAge_49 rfl rfl ?_
          refine x_iload_n 2 DX4_firstOfAge_50 rfl rfl ?_
          refine x_Ve (ci := 4) (av := [vI x]) (rest := []) (st' := [vI (sBeh (ι 32) (ι 35) np 30 x (sNx (ι 32) (ι 35) np x (-1)))]) 0 0 DX4_firstOfAge_51 L4_37 rfl rfl rfl rfl rfl ⟨nle rfl, nle rfl, nle rfl⟩ ⟨rfl, nle rfl⟩ ⟨rfl, nle rfl⟩ (x_behind K x ι ρ Λ hF np hP hp) rfl ?_
          refine x_istore_n 2 (lv' := [some (vR 31), some (vI year), some (vI (sBeh (ι 32) (ι 35) np 30 x (sNx (ι 32) (ι 35) np x (-1)))), some (vI (nI i))]) DX4_firstOfAge_54 rfl ⟨nlt rfl, nlt rfl⟩ rfl ?_
          refine x_iinc ((nI i) + 1) (lv' := [some (vR 31), some (vI year), some (vI (sBeh (ι 32) (ι 35) np 30 x (sNx (ι 32) (ι 35) np x (-1)))), some (vI ((nI i) + 1))]) DX4_firstOfAge_55 rfl rfl (nlt rfl) rfl ?_
          refine x_goto 9 DX4_firstOfAge_58 (by decide) ?_
          refine x_lv (lv' := [some (vR 31), some (vI year), some (vI (sBeh (ι 32) (ι 35) np 30 x (sNx (ι 32) (ι 35) np x (-1)))), some (vI (nI (i + 1)))]) (lvS (lvS (lvS (lvI (nI_1 i) rfl)))) ?_
          exact ih (i + 1) _ (by omega) (by rw [if_pos (by assumption), if_neg (by grind)] at he; exact he)
        · refine x_iload_n 1 DX4_firstOfAge_34 rfl rfl ?_
          refine x_aload_n 0 DX4_firstOfAge_35 rfl rfl ?_
          refine x_getr 1 (some 33) DX4_firstOfAge_36 (Or.inr F4_15) rfl rfl (hF.1 31 1 33 rfl) ?_
          refine x_iload_n 2 DX4_firstOfAge_39 rfl rfl ?_
          refine x_iald (v := (ι 33 x.toNatClampNeg)) x.toNatClampNeg rfl DX4_firstOfAge_40 rfl (gIn.fx hF (c := 33) (n := 30) rfl (gIn_nn (m := 30) (k := x) (n := np) (by assumption) hp (by omega))) rfl ?_
          refine x_isub DX4_firstOfAge_41 ?_
          refine x_bipush 20 DX4_firstOfAge_42 (by decide) ?_
          refine x_icmp_lt 49 DX4_firstOfAge_44 (by decide) (fun c_44 => ?_) (fun c_44 => ?_)
          · refine x_aload_n 0 DX4_firstOfAge_49 rfl rfl ?_
            refine x_iload_n 2 DX4_firstOfAge_50 rfl rfl ?_
            refine x_Ve (ci := 4) (av := [vI x]) (rest := []) (st' := [vI (sBeh (ι 32) (ι 35) np 30 x (sNx (ι 32) (ι 35) np x (-1)))]) 0 0 DX4_firstOfAge_51 L4_37 rfl rfl rfl rfl rfl ⟨nle rfl, nle rfl, nle rfl⟩ ⟨rfl, nle rfl⟩ ⟨rfl, nle rfl⟩ (x_behind K x ι ρ Λ hF np hP hp) rfl ?_
            refine x_istore_n 2 (lv' := [some (vR 31), some (vI year), some (vI (sBeh (ι 32) (ι 35) np 30 x (sNx (ι 32) (ι 35) np x (-1)))), some (vI (nI i))]) DX4_firstOfAge_54 rfl ⟨nlt rfl, nlt rfl⟩ rfl ?_
            refine x_iinc ((nI i) + 1) (lv' := [some (vR 31), some (vI year), some (vI (sBeh (ι 32) (ι 35) np 30 x (sNx (ι 32) (ι 35) np x (-1)))), some (vI ((nI i) + 1))]) DX4_firstOfAge_55 rfl rfl (nlt rfl) rfl ?_
            refine x_goto 9 DX4_firstOfAge_58 (by decide) ?_
            refine x_lv (lv' := [some (vR 31), some (vI year), some (vI (sBeh (ι 32) (ι 35) np 30 x (sNx (ι 32) (ι 35) np x (-1)))), some (vI (nI (i + 1)))]) (lvS (lvS (lvS (lvI (nI_1 i) rfl)))) ?_
            exact ih (i + 1) _ (by omega) (by rw [if_pos (by assumption), if_neg (by grind)] at he; exact he)
          · refine x_iload_n 2 DX4_firstOfAge_47 rfl rfl ?_
            exact x_ireturn DX4_firstOfAge_48 rfl ⟨by rw [if_pos (by assumption), if_pos (by grind)] at he; rw [← he], rfl, rfl, rfl⟩
  refine x_lv (lv' := [some (vR 31), some (vI year), some (vI (sNx (ι 32) (ι 35) np (-1) (-1))), some (vI (nI 0))]) (lvS (lvS (lvS (lvI nI_0.symm rfl)))) ?_
  exact loop np 0 _ (by omega) rfl
theorem x_master (K : gK)  (ι : gIm) (ρ : gRm) (Λ : gLm) (hF : gFix ρ Λ) (np : Nat) (hP : ι 31 4 = nI np) (hp : np ≤ 30) : gCe K 4 0 0 jX11_master [vR 0] ι ρ Λ (some (vI (sFa (ι 32) (ι 35) (ι 33) (ι 34) np (ι 2 0) np (sNx (ι 32) (ι 35) np (-1) (-1))))) ι ρ Λ := by
  refine gC_of (by decide) (nle rfl) ?_
  refine x_aload_n 0 DX11_master_0 rfl rfl ?_
  refine x_getr 8 (some 31) DX11_master_1 (Or.inr F11_67) rfl rfl (hF.1 0 8 31 rfl) ?_
  refine x_aload_n 0 DX11_master_4 rfl rfl ?_
  refine x_getr 1 (some 2) DX11_master_5 (Or.inr F11_16) rfl rfl (hF.1 0 1 2 rfl) ?_
  refine x_geti (v := (ι 2 0)) 0 DX11_master_8 (Or.inl F11_94) rfl rfl rfl ?_
  refine x_Ve (ci := 4) (av := [vI (ι 2 0)]) (rest := []) (st' := [vI (sFa (ι 32) (ι 35) (ι 33) (ι 34) np (ι 2 0) np (sNx (ι 32) (ι 35) np (-1) (-1)))]) 0 0 DX11_master_11 L11_294 rfl rfl rfl rfl rfl ⟨nle rfl, nle rfl, nle rfl⟩ ⟨rfl, nle rfl⟩ ⟨rfl, nle rfl⟩ (x_firstOfAge K (ι 2 0) ι ρ Λ hF np hP hp) rfl ?_
  exact x_ireturn DX11_master_14 rfl ⟨rfl, rfl, rfl, rfl⟩
