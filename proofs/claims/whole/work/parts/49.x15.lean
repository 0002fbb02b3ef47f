/-! the class, XV: may -/
theorem j_bitCount (K : gK) (k : Nat) (ι : gIm) (ρ : gRm) (Λ : gLm) (hk : k < 256) : gCe K 1 0 0 jJ6_bitCount_0f7a4 [vI (nI k)] ι ρ Λ (some (vI (nI (pc k)))) ι ρ Λ := by
  refine gC_of (by decide +kernel) (nle rfl) ?_
  refine x_iload_n 0 DJ6_bitCount_0f7a4_0 rfl rfl ?_
  refine x_iload_n 0 DJ6_bitCount_0f7a4_1 rfl rfl ?_
  refine x_iconst 1 DJ6_bitCount_0f7a4_2 (by decide) ?_
  refine x_iushr (((nI k).toUInt32 >>> (((1 : Int32)).toUInt32 &&& Int32.toUInt32 31)).toInt32) DJ6_bitCount_0f7a4_3 rfl ?_
  refine x_ldcw DJ6_bitCount_0f7a4_4 gw3_229 ?_
  refine x_iand DJ6_bitCount_0f7a4_7 ?_
  refine x_isub DJ6_bitCount_0f7a4_8 ?_
  refine x_nm (fun x1 e_x1 => ?_)
  refine x_istore_n 0 (lv' := [some (vI x1)]) DJ6_bitCount_0f7a4_9 rfl ⟨nlt rfl, nlt rfl⟩ rfl ?_
  refine x_iload_n 0 DJ6_bitCount_0f7a4_10 rfl rfl ?_
  refine x_ldcw DJ6_bitCount_0f7a4_11 gw3_230 ?_
  refine x_iand DJ6_bitCount_0f7a4_14 ?_
  refine x_iload_n 0 DJ6_bitCount_0f7a4_15 rfl rfl ?_
  refine x_iconst 2 DJ6_bitCount_0f7a4_16 (by decide) ?_
  refine x_iushr ((x1.toUInt32 >>> (((2 : Int32)).toUInt32 &&& Int32.toUInt32 31)).toInt32) DJ6_bitCount_0f7a4_17 rfl ?_
  refine x_ldcw DJ6_bitCount_0f7a4_18 gw3_230 ?_
  refine x_iand DJ6_bitCount_0f7a4_21 ?_
  refine x_iadd DJ6_bitCount_0f7a4_22 ?_
  refine x_nm (fun x2 e_x2 => ?_)
  refine x_istore_n 0 (lv' := [some (vI x2)]) DJ6_bitCount_0f7a4_23 rfl ⟨nlt rfl, nlt rfl⟩ rfl ?_
  refine x_iload_n 0 DJ6_bitCount_0f7a4_24 rfl rfl ?_
  refine x_iload_n 0 DJ6_bitCount_0f7a4_25 rfl rfl ?_
  refine x_iconst 4 DJ6_bitCount_0f7a4_26 (by decide) ?_
  refine x_iushr ((x2.toUInt32 >>> (((4 : Int32)).toUInt32 &&& Int32.toUInt32 31)).toInt32) DJ6_bitCount_0f7a4_27 rfl ?_
  refine x_iadd DJ6_bitCount_0f7a4_28 ?_
  refine x_ldcw DJ6_bitCount_0f7a4_29 gw3_231 ?_
  refine x_iand DJ6_bitCount_0f7a4_32 ?_
  refine x_nm (fun x3 e_x3 => ?_)
  refine x_istore_n 0 (lv' := [some (vI x3)]) DJ6_bitCount_0f7a4_33 rfl ⟨nlt rfl, nlt rfl⟩ rfl ?_
  refine x_iload_n 0 DJ6_bitCount_0f7a4_34 rfl rfl ?_
  refine x_iload_n 0 DJ6_bitCount_0f7a4_35 rfl rfl ?_
  refine x_bipush 8 DJ6_bitCount_0f7a4_36 (by decide) ?_
  refine x_iushr ((x3.toUInt32 >>> (((8 : Int32)).toUInt32 &&& Int32.toUInt32 31)).toInt32) DJ6_bitCount_0f7a4_38 rfl ?_
  refine x_iadd DJ6_bitCount_0f7a4_39 ?_
  refine x_nm (fun x4 e_x4 => ?_)
  refine x_istore_n 0 (lv' := [some (vI x4)]) DJ6_bitCount_0f7a4_40 rfl ⟨nlt rfl, nlt rfl⟩ rfl ?_
  refine x_iload_n 0 DJ6_bitCount_0f7a4_41 rfl rfl ?_
  refine x_iload_n 0 DJ6_bitCount_0f7a4_42 rfl rfl ?_
  refine x_bipush 16 DJ6_bitCount_0f7a4_43 (by decide) ?_
  refine x_iushr ((x4.toUInt32 >>> (((16 : Int32)).toUInt32 &&& Int32.toUInt32 31)).toInt32) DJ6_bitCount_0f7a4_45 rfl ?_
  refine x_iadd DJ6_bitCount_0f7a4_46 ?_
  refine x_nm (fun x5 e_x5 => ?_)
  refine x_istore_n 0 (lv' := [some (vI x5)]) DJ6_bitCount_0f7a4_47 rfl ⟨nlt rfl, nlt rfl⟩ rfl ?_
  refine x_iload_n 0 DJ6_bitCount_0f7a4_48 rfl rfl ?_
  refine x_bipush 63 DJ6_bitCount_0f7a4_49 (by decide) ?_
  refine x_iand DJ6_bitCount_0f7a4_51 ?_
  exact x_ireturn DJ6_bitCount_0f7a4_52 rfl ⟨by rw [← bc_eq k hk]; subst_vars; rfl, rfl, rfl, rfl⟩
theorem x_may (K : gK) (S s : Nat) (ι : gIm) (ρ : gRm) (Λ : gLm) (hF : gFix ρ Λ) (n : Nat) (hN : ι 22 9 = nI n) (hn : n ≤ 8) (ld tn : Nat) (hld : ι 22 10 = nI ld) (htn : ι 22 11 = nI tn) (hl8 : ld < 256) (ht8 : tn < 256) (P A H : Nat → Nat) (hPl : ∀ s, s < n → ι 18 s = nI (P s) ∧ P s < 6) (hAf : ∀ s, s < n → ι 21 s = nI (A s) ∧ A s < 256) (hHg : ∀ S, S < 2 ^ n → ι 23 S = nI (H S) ∧ H S < 64) (h2n : 2 ^ n ≤ 256) (hS : S < 2 ^ n) (hs : s < n) : gCe K 2 0 0 jX5_may [vR 22, vI (nI S), vI (nI s)] ι ρ Λ (some (vI (b2i (mayB (ι 17) P A H (ι 20) (ι 22 13) ld tn S s = true)))) ι ρ Λ := by
  refine gC_of (by decide) (nle rfl) ?_
  have hP6 := (hPl s hs).2
  have hA8 := (hAf s hs).2
  have hH8 := (hHg S hS).2
  have hb8 := two8 (show s < 8 by omega)
  have hp8 := two8 (show P s < 8 by omega)
  have ha8 : A s &&& (255 ^^^ S) < 256 := and_lt hA8
  have hc8 : H S &&& 2 ^ P s < 64 := and_lt hH8
  have hc9 : H S &&& 15 &&& (255 ^^^ 2 ^ P s) < 64 := and_lt (and_lt hH8)
  have hc10 : S &&& ld < 256 := and_lt (by omega)
  have hc11 : (ld ||| tn) &&& (255 ^^^ S) < 256 := and_lt (or8 hl8 ht8)
  have hc12 : S &&& 2 ^ s < 256 := and_lt (by omega)
  refine x_iconst 1 DX5_may_0 (by decide) ?_
  refine x_iload_n 2 DX5_may_1 rfl rfl ?_
  refine x_ishl DX5_may_2 ?_
  rw [nI_shl s (by omega)]
  refine x_istore_n 3 (lv' := [some (vR 22), some (vI (nI S)), some (vI (nI s)), some (vI (nI (2 ^ s))), none, none, none]) DX5_may_3 rfl ⟨nlt rfl, nlt rfl⟩ rfl ?_
  refine x_iload_n 1 DX5_may_4 rfl rfl ?_
  refine x_iload_n 3 DX5_may_5 rfl rfl ?_
  refine x_iand DX5_may_6 ?_
  rw [nI_and]
  refine x_if_ne 42 DX5_may_7 (by decide) (fun c_7 => ?_) (fun c_7 => ?_)
  · rw [nI_eq0 (by omega)] at c_7
    refine x_iconst 0 DX5_may_42 (by decide) ?_
    exact x_zreturn DX5_may_43 rfl (Or.inl rfl) ⟨by have hm : mayB (ι 17) P A H (ι 20) (ι 22 13) ld tn S s = false := by { simp only [mayB, hasB, twoB]; grind }; rw [hm]; rfl, rfl, rfl, rfl⟩
  · rw [nI_eq0 (by omega)] at c_7
    refine x_aload_n 0 DX5_may_10 rfl rfl ?_
    refine x_getr 0 (some 16) DX5_may_11 (Or.inr F5_46) rfl rfl (hF.1 22 0 16 rfl) ?_
    refine x_getr 4 (some 21) DX5_may_14 (Or.inr F5_113) rfl rfl (hF.1 16 4 21 rfl) ?_
    refine x_iload_n 2 DX5_may_17 rfl rfl ?_
    refine x_iald (v := (nI (A s))) s (nI_cl1 (by omega)) DX5_may_18 rfl (gIn.fx hF (c := 21) (n := 12) rfl (gIn_nI (by omega) (by omega))) ((hAf s hs).1) ?_
    refine x_iload_n 1 DX5_may_19 rfl rfl ?_
    refine x_iconst (-1) DX5_may_20 (by decide) ?_
    refine x_ixor DX5_may_21 ?_
    refine x_iand DX5_may_22 ?_
    rw [nI_sub2 hA8 (by omega)]
    refine x_if_ne 42 DX5_may_23 (by decide) (fun c_23 => ?_) (fun c_23 => ?_)
    · rw [nI_eq0 (by omega)] at c_23
      refine x_iconst 0 DX5_may_42 (by decide) ?_
      exact x_zreturn DX5_may_43 rfl (Or.inl rfl) ⟨by have hm : mayB (ι 17) P A H (ι 20) (ι 22 13) ld tn S s = false := by { simp only [mayB, hasB, twoB]; grind }; rw [hm]; rfl, rfl, rfl, rfl⟩
    · rw [nI_eq0 (by omega)] at c_23
      refine x_aload_n 0 DX5_may_26 rfl rfl ?_
      refine x_getr 0 (some 16) DX5_may_27 (Or.inr F5_46) rfl rfl (hF.1 22 0 16 rfl) ?_
      refine x_getr 3 (some 20) DX5_may_30 (Or.inr F5_83) rfl rfl (hF.1 16 3 20 rfl) ?_
      refine x_iload_n 2 DX5_may_33 rfl rfl ?_
      refine x_iald (v := (ι 20 s)) s (nI_cl1 (by omega)) DX5_may_34 rfl (gIn.fx hF (c := 20) (n := 12) rfl (gIn_nI (by omega) (by omega))) rfl ?_
      refine x_aload_n 0 DX5_may_35 rfl rfl ?_
      refine x_geti (v := (ι 22 13)) 13 DX5_may_36 (Or.inl F5_40) rfl rfl rfl ?_
      refine x_icmp_le 44 DX5_may_39 (by decide) (fun c_39 => ?_) (fun c_39 => ?_)
      · refine x_iconst 1 DX5_may_44 (by decide) ?_
        refine x_aload_n 0 DX5_may_45 rfl rfl ?_
        refine x_getr 0 (some 16) DX5_may_46 (Or.inr F5_46) rfl rfl (hF.1 22 0 16 rfl) ?_
        refine x_getr 1 (some 18) DX5_may_49 (Or.inr F5_80) rfl rfl (hF.1 16 1 18 rfl) ?_
        refine x_iload_n 2 DX5_may_52 rfl rfl ?_
        refine x_iald (v := (nI (P s))) s (nI_cl1 (by omega)) DX5_may_53 rfl (gIn.fx hF (c := 18) (n := 12) rfl (gIn_nI (by omega) (by omega))) ((hPl s hs).1) ?_
        refine x_ishl DX5_may_54 ?_
        rw [nI_shl (P s) (by omega)]
        refine x_istore (lv' := [some (vR 22), some (vI (nI S)), some (vI (nI s)), some (vI (nI (2 ^ s))), some (vI (nI (2 ^ P s))), none, none]) DX5_may_55 ⟨nlt rfl, nlt rfl⟩ rfl ?_
        refine x_aload_n 0 DX5_may_57 rfl rfl ?_
        refine x_getr 1 (some 23) DX5_may_58 (Or.inr F5_11) rfl rfl (hF.1 22 1 23 rfl) ?_
        refine x_iload_n 1 DX5_may_61 rfl rfl ?_
        refine x_iald (v := (nI (H S))) S (nI_cl1 (by omega)) DX5_may_62 rfl (gIn.fx hF (c := 23) (n := 256) rfl (gIn_nI (by omega) (by omega))) ((hHg S hS).1) ?_
        refine x_iload DX5_may_63 rfl ?_
        refine x_iand DX5_may_65 ?_
        rw [nI_and]
        refine x_if_ne 73 DX5_may_66 (by decide) (fun c_66 => ?_) (fun c_66 => ?_)
        · rw [nI_eq0 (by omega)] at c_66
          refine x_iconst 0 DX5_may_73 (by decide) ?_
          refine x_istore (lv' := [some (vR 22), some (vI (nI S)), some (vI (nI s)), some (vI (nI (2 ^ s))), some (vI (nI (2 ^ P s))), some (vI 0), none]) DX5_may_74 ⟨nlt rfl, nlt rfl⟩ rfl ?_
          refine x_aload_n 0 DX5_may_76 rfl rfl ?_
          refine x_getr 1 (some 23) DX5_may_77 (Or.inr F5_11) rfl rfl (hF.1 22 1 23 rfl) ?_
          refine x_iload_n 1 DX5_may_80 rfl rfl ?_
          refine x_iald (v := (nI (H S))) S (nI_cl1 (by omega)) DX5_may_81 rfl (gIn.fx hF (c := 23) (n := 256) rfl (gIn_nI (by omega) (by omega))) ((hHg S hS).1) ?_
          refine x_bipush 15 DX5_may_82 (by decide) ?_
          refine x_iand DX5_may_84 ?_
          rw [show (15 : Int32) = nI 15 from rfl, nI_and]
          refine x_iload DX5_may_85 rfl ?_
          refine x_iconst (-1) DX5_may_87 (by decide) ?_
          refine x_ixor DX5_may_88 ?_
          refine x_iand DX5_may_89 ?_
          rw [nI_sub2 (and_lt (by omega)) hp8]
          refine x_Se (av := [vI (nI (H S &&& 15 &&& (255 ^^^ 2 ^ P s)))]) (rest := []) (st' := [vI (nI (pc (H S &&& 15 &&& (255 ^^^ 2 ^ P s))))]) 0 0 DX5_may_90 L5_116 rfl rfl ⟨nle rfl, nle rfl, nle rfl⟩ ⟨rfl, nle rfl⟩ ⟨rfl, nle rfl⟩ (j_bitCount K (H S &&& 15 &&& (255 ^^^ 2 ^ P s)) ι ρ Λ (by omega)) rfl ?_
          refine x_iconst 2 DX5_may_93 (by decide) ?_
          refine x_icmp_lt 101 DX5_may_94 (by decide) (fun c_94 => ?_) (fun c_94 => ?_)
          · rw [show (2 : Int32) = nI 2 from rfl, nI_lt1 (by have := pc_le (H S &&& 15 &&& (255 ^^^ 2 ^ P s)); omega) (by omega)] at c_94
            refine x_iconst 0 DX5_may_101 (by decide) ?_
            refine x_istore (lv' := [some (vR 22), some (vI (nI S)), some (vI (nI s)), some (vI (nI (2 ^ s))), some (vI (nI (2 ^ P s))), some (vI 0), some (vI 0)]) DX5_may_102 ⟨nlt rfl, nlt rfl⟩ rfl ?_
            refine x_aload_n 0 DX5_may_104 rfl rfl ?_
            refine x_getr 0 (some 16) DX5_may_105 (Or.inr F5_46) rfl rfl (hF.1 22 0 16 rfl) ?_
            refine x_getr 0 (some 17) DX5_may_108 (Or.inr F5_77) rfl rfl (hF.1 16 0 17 rfl) ?_
            refine x_iload_n 2 DX5_may_111 rfl rfl ?_
            refine x_iald (v := (ι 17 s)) s (nI_cl1 (by omega)) DX5_may_112 rfl (gIn.fx hF (c := 17) (n := 12) rfl (gIn_nI (by omega) (by omega))) rfl ?_
            refine x_if_ne 145 DX5_may_113 (by decide) (fun c_113 => ?_) (fun c_113 => ?_)
            · refine x_aload_n 0 DX5_may_145 rfl rfl ?_
              refine x_getr 0 (some 16) DX5_may_146 (Or.inr F5_46) rfl rfl (hF.1 22 0 16 rfl) ?_
              refine x_getr 0 (some 17) DX5_may_149 (Or.inr F5_77) rfl rfl (hF.1 16 0 17 rfl) ?_
              refine x_iload_n 2 DX5_may_152 rfl rfl ?_
              refine x_iald (v := (ι 17 s)) s (nI_cl1 (by omega)) DX5_may_153 rfl (gIn.fx hF (c := 17) (n := 12) rfl (gIn_nI (by omega) (by omega))) rfl ?_
              refine x_iconst 1 DX5_may_154 (by decide) ?_
              refine x_icmp_ne 190 DX5_may_155 (by decide) (fun c_155 => ?_) (fun c_155 => ?_)
              · refine x_iload DX5_may_190 rfl ?_
                refine x_if_ne 204 DX5_may_192 (by decide) (fun h => absurd h (by decide)) (fun _ => ?_)
                refine x_iload DX5_may_195 rfl ?_
                refine x_if_eq 204 DX5_may_197 (by decide) (fun _ => ?_) (fun h => absurd h (by decide))
                refine x_iconst 0 DX5_may_204 (by decide) ?_
                exact x_zreturn DX5_may_205 rfl (Or.inl rfl) ⟨by have hm : mayB (ι 17) P A H (ι 20) (ι 22 13) ld tn S s = false := by { simp only [mayB, hasB, twoB]; grind }; rw [hm]; rfl, rfl, rfl, rfl⟩
              · refine x_iload DX5_may_158 rfl ?_
                refine x_if_ne 188 DX5_may_160 (by decide) (fun h => absurd h (by decide)) (fun _ => ?_)
                refine x_iload DX5_may_163 rfl ?_
                refine x_if_ne 184 DX5_may_165 (by decide) (fun h => absurd h (by decide)) (fun _ => ?_)
                refine x_aload_n 0 DX5_may_168 rfl rfl ?_
                refine x_geti (v := (nI ld)) 10 DX5_may_169 (Or.inl F5_71) rfl rfl hld ?_
                refine x_aload_n 0 DX5_may_172 rfl rfl ?_
                refine x_geti (v := (nI tn)) 11 DX5_may_173 (Or.inl F5_74) rfl rfl htn ?_
                refine x_ior DX5_may_176 ?_
                rw [nI_or]
                refine x_iload_n 1 DX5_may_177 rfl rfl ?_
                refine x_iconst (-1) DX5_may_178 (by decide) ?_
                refine x_ixor DX5_may_179 ?_
                refine x_iand DX5_may_180 ?_
                rw [nI_sub2 (or8 hl8 ht8) (by omega)]
                refine x_if_ne 188 DX5_may_181 (by decide) (fun c_181 => ?_) (fun c_181 => ?_)
                · rw [nI_eq0 (by omega)] at c_181
                  refine x_iconst 0 DX5_may_188 (by decide) ?_
                  exact x_zreturn DX5_may_189 rfl (Or.inl rfl) ⟨by have hm : mayB (ι 17) P A H (ι 20) (ι 22 13) ld tn S s = false := by { simp only [mayB, hasB, twoB]; grind }; rw [hm]; rfl, rfl, rfl, rfl⟩
                · rw [nI_eq0 (by omega)] at c_181
                  refine x_iconst 1 DX5_may_184 (by decide) ?_
                  refine x_goto 189 DX5_may_185 (by decide) ?_
                  exact x_zreturn DX5_may_189 rfl (Or.inr rfl) ⟨by have hm : mayB (ι 17) P A H (ι 20) (ι 22 13) ld tn S s = true := by { simp only [mayB, hasB, twoB]; grind }; rw [hm]; rfl, rfl, rfl, rfl⟩
            · refine x_iload DX5_may_116 rfl ?_
              refine x_if_eq 143 DX5_may_118 (by decide) (fun _ => ?_) (fun h => absurd h (by decide))
              refine x_iconst 0 DX5_may_143 (by decide) ?_
              exact x_zreturn DX5_may_144 rfl (Or.inl rfl) ⟨by have hm : mayB (ι 17) P A H (ι 20) (ι 22 13) ld tn S s = false := by { simp only [mayB, hasB, twoB]; grind }; rw [hm]; rfl, rfl, rfl, rfl⟩
          · rw [show (2 : Int32) = nI 2 from rfl, nI_lt1 (by have := pc_le (H S &&& 15 &&& (255 ^^^ 2 ^ P s)); omega) (by omega)] at c_94
            refine x_iconst 1 DX5_may_97 (by decide) ?_
            refine x_goto 102 DX5_may_98 (by decide) ?_
            refine x_istore (lv' := [some (vR 22), some (vI (nI S)), some (vI (nI s)), some (vI (nI (2 ^ s))), some (vI (nI (2 ^ P s))), some (vI 0), some (vI 1)]) DX5_may_102 ⟨nlt rfl, nlt rfl⟩ rfl ?_
            refine x_aload_n 0 DX5_may_104 rfl rfl ?_
            refine x_getr 0 (some 16) DX5_may_105 (Or.inr F5_46) rfl rfl (hF.1 22 0 16 rfl) ?_
            refine x_getr 0 (some 17) DX5_may_108 (Or.inr F5_77) rfl rfl (hF.1 16 0 17 rfl) ?_
            refine x_iload_n 2 DX5_may_111 rfl rfl ?_
            refine x_iald (v := (ι 17 s)) s (nI_cl1 (by omega)) DX5_may_112 rfl (gIn.fx hF (c := 17) (n := 12) rfl (gIn_nI (by omega) (by omega))) rfl ?_
            refine x_if_ne 145 DX5_may_113 (by decide) (fun c_113 => ?_) (fun c_113 => ?_)
            · refine x_aload_n 0 DX5_may_145 rfl rfl ?_
              refine x_getr 0 (some 16) DX5_may_146 (Or.inr F5_46) rfl rfl (hF.1 22 0 16 rfl) ?_
              refine x_getr 0 (some 17) DX5_may_149 (Or.inr F5_77) rfl rfl (hF.1 16 0 17 rfl) ?_
              refine x_iload_n 2 DX5_may_152 rfl rfl ?_
              refine x_iald (v := (ι 17 s)) s (nI_cl1 (by omega)) DX5_may_153 rfl (gIn.fx hF (c := 17) (n := 12) rfl (gIn_nI (by omega) (by omega))) rfl ?_
              refine x_iconst 1 DX5_may_154 (by decide) ?_
              refine x_icmp_ne 190 DX5_may_155 (by decide) (fun c_155 => ?_) (fun c_155 => ?_)
              · refine x_iload DX5_may_190 rfl ?_
                refine x_if_ne 204 DX5_may_192 (by decide) (fun h => absurd h (by decide)) (fun _ => ?_)
                refine x_iload DX5_may_195 rfl ?_
                refine x_if_eq 204 DX5_may_197 (by decide) (fun h => absurd h (by decide)) (fun _ => ?_)
                refine x_iconst 1 DX5_may_200 (by decide) ?_
                refine x_goto 205 DX5_may_201 (by decide) ?_
                exact x_zreturn DX5_may_205 rfl (Or.inr rfl) ⟨by have hm : mayB (ι 17) P A H (ι 20) (ι 22 13) ld tn S s = true := by { simp only [mayB, hasB, twoB]; grind }; rw [hm]; rfl, rfl, rfl, rfl⟩
              · refine x_iload DX5_may_158 rfl ?_
                refine x_if_ne 188 DX5_may_160 (by decide) (fun h => absurd h (by decide)) (fun _ => ?_)
                refine x_iload DX5_may_163 rfl ?_
                refine x_if_ne 184 DX5_may_165 (by decide) (fun _ => ?_) (fun h => absurd h (by decide))
                refine x_iconst 1 DX5_may_184 (by decide) ?_
                refine x_goto 189 DX5_may_185 (by decide) ?_
                exact x_zreturn DX5_may_189 rfl (Or.inr rfl) ⟨by have hm : mayB (ι 17) P A H (ι 20) (ι 22 13) ld tn S s = true := by { simp only [mayB, hasB, twoB]; grind }; rw [hm]; rfl, rfl, rfl, rfl⟩
            · refine x_iload DX5_may_116 rfl ?_
              refine x_if_eq 143 DX5_may_118 (by decide) (fun _ => ?_) (fun h => absurd h (by decide))
              refine x_iconst 0 DX5_may_143 (by decide) ?_
              exact x_zreturn DX5_may_144 rfl (Or.inl rfl) ⟨by have hm : mayB (ι 17) P A H (ι 20) (ι 22 13) ld tn S s = false := by { simp only [mayB, hasB, twoB]; grind }; rw [hm]; rfl, rfl, rfl, rfl⟩
        · rw [nI_eq0 (by omega)] at c_66
          refine x_iconst 1 DX5_may_69 (by decide) ?_
          refine x_goto 74 DX5_may_70 (by decide) ?_
          refine x_istore (lv' := [some (vR 22), some (vI (nI S)), some (vI (nI s)), some (vI (nI (2 ^ s))), some (vI (nI (2 ^ P s))), some (vI 1), none]) DX5_may_74 ⟨nlt rfl, nlt rfl⟩ rfl ?_
          refine x_aload_n 0 DX5_may_76 rfl rfl ?_
          refine x_getr 1 (some 23) DX5_may_77 (Or.inr F5_11) rfl rfl (hF.1 22 1 23 rfl) ?_
          refine x_iload_n 1 DX5_may_80 rfl rfl ?_
          refine x_iald (v := (nI (H S))) S (nI_cl1 (by omega)) DX5_may_81 rfl (gIn.fx hF (c := 23) (n := 256) rfl (gIn_nI (by omega) (by omega))) ((hHg S hS).1) ?_
          refine x_bipush 15 DX5_may_82 (by decide) ?_
          refine x_iand DX5_may_84 ?_
          rw [show (15 : Int32) = nI 15 from rfl, nI_and]
          refine x_iload DX5_may_85 rfl ?_
          refine x_iconst (-1) DX5_may_87 (by decide) ?_
          refine x_ixor DX5_may_88 ?_
          refine x_iand DX5_may_89 ?_
          rw [nI_sub2 (and_lt (by omega)) hp8]
          refine x_Se (av := [vI (nI (H S &&& 15 &&& (255 ^^^ 2 ^ P s)))]) (rest := []) (st' := [vI (nI (pc (H S &&& 15 &&& (255 ^^^ 2 ^ P s))))]) 0 0 DX5_may_90 L5_116 rfl rfl ⟨nle rfl, nle rfl, nle rfl⟩ ⟨rfl, nle rfl⟩ ⟨rfl, nle rfl⟩ (j_bitCount K (H S &&& 15 &&& (255 ^^^ 2 ^ P s)) ι ρ Λ (by omega)) rfl ?_
          refine x_iconst 2 DX5_may_93 (by decide) ?_
          refine x_icmp_lt 101 DX5_may_94 (by decide) (fun c_94 => ?_) (fun c_94 => ?_)
          · rw [show (2 : Int32) = nI 2 from rfl, nI_lt1 (by have := pc_le (H S &&& 15 &&& (255 ^^^ 2 ^ P s)); omega) (by omega)] at c_94
            refine x_iconst 0 DX5_may_101 (by decide) ?_
            refine x_istore (lv' := [some (vR 22), some (vI (nI S)), some (vI (nI s)), some (vI (nI (2 ^ s))), some (vI (nI (2 ^ P s))), some (vI 1), some (vI 0)]) DX5_may_102 ⟨nlt rfl, nlt rfl⟩ rfl ?_
            refine x_aload_n 0 DX5_may_104 rfl rfl ?_
            refine x_getr 0 (some 16) DX5_may_105 (Or.inr F5_46) rfl rfl (hF.1 22 0 16 rfl) ?_
            refine x_getr 0 (some 17) DX5_may_108 (Or.inr F5_77) rfl rfl (hF.1 16 0 17 rfl) ?_
            refine x_iload_n 2 DX5_may_111 rfl rfl ?_
            refine x_iald (v := (ι 17 s)) s (nI_cl1 (by omega)) DX5_may_112 rfl (gIn.fx hF (c := 17) (n := 12) rfl (gIn_nI (by omega) (by omega))) rfl ?_
            refine x_if_ne 145 DX5_may_113 (by decide) (fun c_113 => ?_) (fun c_113 => ?_)
            · refine x_aload_n 0 DX5_may_145 rfl rfl ?_
              refine x_getr 0 (some 16) DX5_may_146 (Or.inr F5_46) rfl rfl (hF.1 22 0 16 rfl) ?_
              refine x_getr 0 (some 17) DX5_may_149 (Or.inr F5_77) rfl rfl (hF.1 16 0 17 rfl) ?_
              refine x_iload_n 2 DX5_may_152 rfl rfl ?_
              refine x_iald (v := (ι 17 s)) s (nI_cl1 (by omega)) DX5_may_153 rfl (gIn.fx hF (c := 17) (n := 12) rfl (gIn_nI (by omega) (by omega))) rfl ?_
              refine x_iconst 1 DX5_may_154 (by decide) ?_
              refine x_icmp_ne 190 DX5_may_155 (by decide) (fun c_155 => ?_) (fun c_155 => ?_)
              · refine x_iload DX5_may_190 rfl ?_
                refine x_if_ne 204 DX5_may_192 (by decide) (fun _ => ?_) (fun h => absurd h (by decide))
                refine x_iconst 0 DX5_may_204 (by decide) ?_
                exact x_zreturn DX5_may_205 rfl (Or.inl rfl) ⟨by have hm : mayB (ι 17) P A H (ι 20) (ι 22 13) ld tn S s = false := by { simp only [mayB, hasB, twoB]; grind }; rw [hm]; rfl, rfl, rfl, rfl⟩
              · refine x_iload DX5_may_158 rfl ?_
                refine x_if_ne 188 DX5_may_160 (by decide) (fun _ => ?_) (fun h => absurd h (by decide))
                refine x_iconst 0 DX5_may_188 (by decide) ?_
                exact x_zreturn DX5_may_189 rfl (Or.inl rfl) ⟨by have hm : mayB (ι 17) P A H (ι 20) (ι 22 13) ld tn S s = false := by { simp only [mayB, hasB, twoB]; grind }; rw [hm]; rfl, rfl, rfl, rfl⟩
            · refine x_iload DX5_may_116 rfl ?_
              refine x_if_eq 143 DX5_may_118 (by decide) (fun h => absurd h (by decide)) (fun _ => ?_)
              refine x_iload DX5_may_121 rfl ?_
              refine x_if_ne 139 DX5_may_123 (by decide) (fun h => absurd h (by decide)) (fun _ => ?_)
              refine x_iload_n 1 DX5_may_126 rfl rfl ?_
              refine x_aload_n 0 DX5_may_127 rfl rfl ?_
              refine x_geti (v := (nI ld)) 10 DX5_may_128 (Or.inl F5_71) rfl rfl hld ?_
              refine x_iand DX5_may_131 ?_
              rw [nI_and]
              refine x_Se (av := [vI (nI (S &&& ld))]) (rest := []) (st' := [vI (nI (pc (S &&& ld)))]) 0 0 DX5_may_132 L5_116 rfl rfl ⟨nle rfl, nle rfl, nle rfl⟩ ⟨rfl, nle rfl⟩ ⟨rfl, nle rfl⟩ (j_bitCount K (S &&& ld) ι ρ Λ (by omega)) rfl ?_
              refine x_iconst 2 DX5_may_135 (by decide) ?_
              refine x_icmp_ge 143 DX5_may_136 (by decide) (fun c_136 => ?_) (fun c_136 => ?_)
              · rw [show (2 : Int32) = nI 2 from rfl, nI_le1 (by omega) (by have := pc_le (S &&& ld); omega)] at c_136
                refine x_iconst 0 DX5_may_143 (by decide) ?_
                exact x_zreturn DX5_may_144 rfl (Or.inl rfl) ⟨by have hm : mayB (ι 17) P A H (ι 20) (ι 22 13) ld tn S s = false := by { simp only [mayB, hasB, twoB]; grind }; rw [hm]; rfl, rfl, rfl, rfl⟩
              · rw [show (2 : Int32) = nI 2 from rfl, nI_le1 (by omega) (by have := pc_le (S &&& ld); omega)] at c_136
                refine x_iconst 1 DX5_may_139 (by decide) ?_
                refine x_goto 144 DX5_may_140 (by decide) ?_
                exact x_zreturn DX5_may_144 rfl (Or.inr rfl) ⟨by have hm : mayB (ι 17) P A H (ι 20) (ι 22 13) ld tn S s = true := by { simp only [mayB, hasB, twoB]; grind }; rw [hm]; rfl, rfl, rfl, rfl⟩
          · rw [show (2 : Int32) = nI 2 from rfl, nI_lt1 (by have := pc_le (H S &&& 15 &&& (255 ^^^ 2 ^ P s)); omega) (by omega)] at c_94
            refine x_iconst 1 DX5_may_97 (by decide) ?_
            refine x_goto 102 DX5_may_98 (by decide) ?_
            refine x_istore (lv' := [some (vR 22), some (vI (nI S)), some (vI (nI s)), some (vI (nI (2 ^ s))), some (vI (nI (2 ^ P s))), some (vI 1), some (vI 1)]) DX5_may_102 ⟨nlt rfl, nlt rfl⟩ rfl ?_
            refine x_aload_n 0 DX5_may_104 rfl rfl ?_
            refine x_getr 0 (some 16) DX5_may_105 (Or.inr F5_46) rfl rfl (hF.1 22 0 16 rfl) ?_
            refine x_getr 0 (some 17) DX5_may_108 (Or.inr F5_77) rfl rfl (hF.1 16 0 17 rfl) ?_
            refine x_iload_n 2 DX5_may_111 rfl rfl ?_
            refine x_iald (v := (ι 17 s)) s (nI_cl1 (by omega)) DX5_may_112 rfl (gIn.fx hF (c := 17) (n := 12) rfl (gIn_nI (by omega) (by omega))) rfl ?_
            refine x_if_ne 145 DX5_may_113 (by decide) (fun c_113 => ?_) (fun c_113 => ?_)
            · refine x_aload_n 0 DX5_may_145 rfl rfl ?_
              refine x_getr 0 (some 16) DX5_may_146 (Or.inr F5_46) rfl rfl (hF.1 22 0 16 rfl) ?_
              refine x_getr 0 (some 17) DX5_may_149 (Or.inr F5_77) rfl rfl (hF.1 16 0 17 rfl) ?_
              refine x_iload_n 2 DX5_may_152 rfl rfl ?_
              refine x_iald (v := (ι 17 s)) s (nI_cl1 (by omega)) DX5_may_153 rfl (gIn.fx hF (c := 17) (n := 12) rfl (gIn_nI (by omega) (by omega))) rfl ?_
              refine x_iconst 1 DX5_may_154 (by decide) ?_
              refine x_icmp_ne 190 DX5_may_155 (by decide) (fun c_155 => ?_) (fun c_155 => ?_)
              · refine x_iload DX5_may_190 rfl ?_
                refine x_if_ne 204 DX5_may_192 (by decide) (fun _ => ?_) (fun h => absurd h (by decide))
                refine x_iconst 0 DX5_may_204 (by decide) ?_
                exact x_zreturn DX5_may_205 rfl (Or.inl rfl) ⟨by have hm : mayB (ι 17) P A H (ι 20) (ι 22 13) ld tn S s = false := by { simp only [mayB, hasB, twoB]; grind }; rw [hm]; rfl, rfl, rfl, rfl⟩
              · refine x_iload DX5_may_158 rfl ?_
                refine x_if_ne 188 DX5_may_160 (by decide) (fun _ => ?_) (fun h => absurd h (by decide))
                refine x_iconst 0 DX5_may_188 (by decide) ?_
                exact x_zreturn DX5_may_189 rfl (Or.inl rfl) ⟨by have hm : mayB (ι 17) P A H (ι 20) (ι 22 13) ld tn S s = false := by { simp only [mayB, hasB, twoB]; grind }; rw [hm]; rfl, rfl, rfl, rfl⟩
            · refine x_iload DX5_may_116 rfl ?_
              refine x_if_eq 143 DX5_may_118 (by decide) (fun h => absurd h (by decide)) (fun _ => ?_)
              refine x_iload DX5_may_121 rfl ?_
              refine x_if_ne 139 DX5_may_123 (by decide) (fun _ => ?_) (fun h => absurd h (by decide))
              refine x_iconst 1 DX5_may_139 (by decide) ?_
              refine x_goto 144 DX5_may_140 (by decide) ?_
              exact x_zreturn DX5_may_144 rfl (Or.inr rfl) ⟨by have hm : mayB (ι 17) P A H (ι 20) (ι 22 13) ld tn S s = true := by { simp only [mayB, hasB, twoB]; grind }; rw [hm]; rfl, rfl, rfl, rfl⟩
      · refine x_iconst 0 DX5_may_42 (by decide) ?_
        exact x_zreturn DX5_may_43 rfl (Or.inl rfl) ⟨by have hm : mayB (ι 17) P A H (ι 20) (ι 22 13) ld tn S s = false := by { simp only [mayB, hasB, twoB]; grind }; rw [hm]; rfl, rfl, rfl, rfl⟩
