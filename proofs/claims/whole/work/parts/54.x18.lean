/-! the class, XVIII: sums over sets -/
theorem x_sumSets (K : gK)  (ι : gIm) (ρ : gRm) (Λ : gLm) (hF : gFix ρ Λ) (n : Nat) (P : Nat → Nat) (hN : ι 22 9 = nI n) (hn : n ≤ 8) (hPl : ∀ s, s < n → ι 18 s = nI (P s) ∧ P s < 6) : gCe K 2 0 0 jX5_sumSets [vR 22] ι ρ Λ none (xSu P n ι) ρ Λ := by
  refine gC_of (by decide) (nle rfl) ?_
  refine x_aload_n 0 DX5_sumSets_0 rfl rfl ?_
  refine x_iconst 0 DX5_sumSets_1 (by decide) ?_
  refine x_puti 10 DX5_sumSets_2 F5_71 rfl (Or.inl rfl) rfl (fun ι2 e_ι2 => ?_)
  refine x_aload_n 0 DX5_sumSets_5 rfl rfl ?_
  refine x_iconst 0 DX5_sumSets_6 (by decide) ?_
  refine x_puti 11 DX5_sumSets_7 F5_74 rfl (Or.inl rfl) rfl (fun ι7 e_ι7 => ?_)
  refine x_aload_n 0 DX5_sumSets_10 rfl rfl ?_
  refine x_getr 1 (some 23) DX5_sumSets_11 (Or.inr F5_11) rfl rfl (hF.1 22 1 23 rfl) ?_
  refine x_iconst 0 DX5_sumSets_14 (by decide) ?_
  refine x_aload_n 0 DX5_sumSets_15 rfl rfl ?_
  refine x_geti (v := (ι 22 12)) 12 DX5_sumSets_16 (Or.inl F5_36) rfl rfl ((rd2 e_ι7 (by decide)).trans (rd2 e_ι2 (by decide))) ?_
  refine x_iast 0 rfl DX5_sumSets_19 rfl (gIn.fx hF (c := 23) (n := 256) rfl (⟨by decide, by decide⟩)) (fun ι19 e_ι19 => ?_)
  refine x_iconst 0 DX5_sumSets_20 (by decide) ?_
  refine x_istore_n 1 (lv' := [some (vR 22), some (vI 0), none, none, none, none]) DX5_sumSets_21 rfl ⟨nlt rfl, nlt rfl⟩ rfl ?_
  refine x_lv (lv' := [some (vR 22), some (vI (nI 0)), none, none, none, none]) (lvS (lvI nI_0.symm (lvS (lvS (lvS (lvS rfl)))))) ?_
  have ez : ι19 = (up2 (up2 (up2 ι 22 10 0) 22 11 0) 23 0 (ι 22 12)) := by subst_vars; rfl
  rw [ez]
  refine lpJ (W := fun (s : Nat) (z : gIm) => gX K none 2 0 0 jX5_sumSets 22 [some (vR 22), some (vI (nI s)), none, none, none, none] [] 0 0 z ρ Λ (fun r2 a b c => r2 = none ∧ a = (xSu P n ι) ∧ b = ρ ∧ c = Λ)) (xSu1 P) (fun _ z => okS n P (ι 18) z) n (fun s z hs hJ ih => ?_) (fun s z hs hJ => okS_1 hJ) 0 (up2 (up2 (up2 ι 22 10 0) 22 11 0) 23 0 (ι 22 12)) (by omega) ⟨by rw [up2_ne _ _ _ (by decide), up2_row, va_up_ne _ _ (by decide), up2_row, va_up_ne _ _ (by decide)]; exact hN, by rw [up2_ne _ _ _ (by decide), up2_ne _ _ _ (by decide), up2_ne _ _ _ (by decide)]⟩ (fun hJ => ?_)
  · obtain ⟨hz9, hz18⟩ := id hJ
    have hP6 := (hPl s hs).2
    have hs8 := two8 (show s < 8 by omega)
    have h2s : 2 ^ (s + 1) ≤ 256 := Nat.pow_le_pow_right (n := 2) (by omega) (show s + 1 ≤ 8 by omega)
    rw [Nat.pow_succ] at h2s
    refine x_iload_n 1 DX5_sumSets_22 rfl rfl ?_
    refine x_aload_n 0 DX5_sumSets_23 rfl rfl ?_
    refine x_geti (v := (nI n)) 9 DX5_sumSets_24 (Or.inl F5_51) rfl rfl hz9 ?_
    refine x_icmp_ge 223 DX5_sumSets_27 (by decide) (fun c_27 => False.elim (by rw [nI_le1 (by omega) (by omega)] at c_27; omega)) (fun c_27 => ?_)
    refine x_aload_n 0 DX5_sumSets_30 rfl rfl ?_
    refine x_dup DX5_sumSets_31 ?_
    refine x_geti (v := (z 22 10)) 10 DX5_sumSets_32 (Or.inl F5_71) rfl rfl rfl ?_
    refine x_aload_n 0 DX5_sumSets_35 rfl rfl ?_
    refine x_getr 0 (some 16) DX5_sumSets_36 (Or.inr F5_46) rfl rfl (hF.1 22 0 16 rfl) ?_
    refine x_getr 0 (some 17) DX5_sumSets_39 (Or.inr F5_77) rfl rfl (hF.1 16 0 17 rfl) ?_
    refine x_iload_n 1 DX5_sumSets_42 rfl rfl ?_
    refine x_iald (v := (z 17 s)) s (nI_cl1 (by omega)) DX5_sumSets_43 rfl (gIn.fx hF (c := 17) (n := 12) rfl (gIn_nI (by omega) (by omega))) rfl ?_
    refine x_if_ne 53 DX5_sumSets_44 (by decide) (fun c_44 => ?_) (fun c_44 => ?_)
    · refine x_iconst 0 DX5_sumSets_53 (by decide) ?_
      refine x_ior DX5_sumSets_54 ?_
      refine x_puti 10 DX5_sumSets_55 F5_71 rfl (Or.inl rfl) rfl (fun ι55 e_ι55 => ?_)
      refine x_aload_n 0 DX5_sumSets_58 rfl rfl ?_
      refine x_dup DX5_sumSets_59 ?_
      refine x_geti (v := (z 22 11)) 11 DX5_sumSets_60 (Or.inl F5_74) rfl rfl (rd2 e_ι55 (by decide)) ?_
      refine x_aload_n 0 DX5_sumSets_63 rfl rfl ?_
      refine x_getr 0 (some 16) DX5_sumSets_64 (Or.inr F5_46) rfl rfl (hF.1 22 0 16 rfl) ?_
      refine x_getr 0 (some 17) DX5_sumSets_67 (Or.inr F5_77) rfl rfl (hF.1 16 0 17 rfl) ?_
      refine x_iload_n 1 DX5_sumSets_70 rfl rfl ?_
      refine x_iald (v := (z 17 s)) s (nI_cl1 (by omega)) DX5_sumSets_71 rfl (gIn.fx hF (c := 17) (n := 12) rfl (gIn_nI (by omega) (by omega))) (rd1 e_ι55 (by decide)) ?_
      refine x_iconst 2 DX5_sumSets_72 (by decide) ?_
      refine x_icmp_ne 82 DX5_sumSets_73 (by decide) (fun c_73 => ?_) (fun c_73 => ?_)
      · refine x_iconst 0 DX5_sumSets_82 (by decide) ?_
        refine x_ior DX5_sumSets_83 ?_
        refine x_puti 11 DX5_sumSets_84 F5_74 rfl (Or.inl rfl) rfl (fun ι84 e_ι84 => ?_)
        refine x_aload_n 0 DX5_sumSets_87 rfl rfl ?_
        refine x_getr 0 (some 16) DX5_sumSets_88 (Or.inr F5_46) rfl rfl (hF.1 22 0 16 rfl) ?_
        refine x_getr 0 (some 17) DX5_sumSets_91 (Or.inr F5_77) rfl rfl (hF.1 16 0 17 rfl) ?_
        refine x_iload_n 1 DX5_sumSets_94 rfl rfl ?_
        refine x_iald (v := (z 17 s)) s (nI_cl1 (by omega)) DX5_sumSets_95 rfl (gIn.fx hF (c := 17) (n := 12) rfl (gIn_nI (by omega) (by omega))) ((rd1 e_ι84 (by decide)).trans (rd1 e_ι55 (by decide))) ?_
        refine x_iconst 2 DX5_sumSets_96 (by decide) ?_
        refine x_icmp_ne 104 DX5_sumSets_97 (by decide) (fun c_97 => ?_) (fun c_97 => False.elim (by grind))
        refine x_iconst 1 DX5_sumSets_104 (by decide) ?_
        refine x_aload_n 0 DX5_sumSets_105 rfl rfl ?_
        refine x_getr 0 (some 16) DX5_sumSets_106 (Or.inr F5_46) rfl rfl (hF.1 22 0 16 rfl) ?_
        refine x_getr 1 (some 18) DX5_sumSets_109 (Or.inr F5_80) rfl rfl (hF.1 16 1 18 rfl) ?_
        refine x_iload_n 1 DX5_sumSets_112 rfl rfl ?_
        refine x_iald (v := (nI (P s))) s (nI_cl1 (by omega)) DX5_sumSets_113 rfl (gIn.fx hF (c := 18) (n := 12) rfl (gIn_nI (by omega) (by omega))) (((rd1 e_ι84 (by decide)).trans (rd1 e_ι55 (by decide))).trans (by rw [hz18]; exact (hPl s hs).1)) ?_
        refine x_ishl DX5_sumSets_114 ?_
        rw [nI_shl (P s) (by omega)]
        refine x_istore_n 2 (lv' := [some (vR 22), some (vI (nI s)), some (vI (nI (2 ^ P s))), none, none, none]) DX5_sumSets_115 rfl ⟨nlt rfl, nlt rfl⟩ rfl ?_
        refine x_iconst 1 DX5_sumSets_116 (by decide) ?_
        refine x_iload_n 1 DX5_sumSets_117 rfl rfl ?_
        refine x_ishl DX5_sumSets_118 ?_
        rw [nI_shl s (by omega)]
        refine x_istore_n 3 (lv' := [some (vR 22), some (vI (nI s)), some (vI (nI (2 ^ P s))), some (vI (nI (2 ^ s))), none, none]) DX5_sumSets_119 rfl ⟨nlt rfl, nlt rfl⟩ rfl ?_
        refine x_iload_n 3 DX5_sumSets_120 rfl rfl ?_
        refine x_istore (lv' := [some (vR 22), some (vI (nI s)), some (vI (nI (2 ^ P s))), some (vI (nI (2 ^ s))), some (vI (nI (2 ^ s))), none]) DX5_sumSets_121 ⟨nlt rfl, nlt rfl⟩ rfl ?_
        refine x_lv (lv' := [some (vR 22), some (vI (nI s)), some (vI (nI (2 ^ P s))), some (vI (nI (2 ^ s))), some (vI (nI (2 ^ s + 0))), none]) (lvS (lvS (lvS (lvS (lvI rfl (lvS rfl)))))) ?_
        have em : mvI z P s = (nI (2 ^ P s)) := by rw [mvI, if_neg (by grind)]
        have el : ι84 = xLd z s := by rw [xLd]; subst_vars; first | (rw [if_pos (by grind), if_neg (by grind)]) | (rw [if_neg (by grind), if_pos (by grind)]) | (rw [if_neg (by grind), if_neg (by grind)])
        rw [el]
        refine lp0 (W := fun (j : Nat) (y : gIm) => gX K none 2 0 0 jX5_sumSets 123 [some (vR 22), some (vI (nI s)), some (vI (nI (2 ^ P s))), some (vI (nI (2 ^ s))), some (vI (nI (2 ^ s + j))), none] [] 0 0 y ρ Λ (fun r2 a b c => r2 = none ∧ a = (xSu P n ι) ∧ b = ρ ∧ c = Λ)) (xSu2 s (nI (2 ^ P s))) (2 ^ s) (fun j y hj ih2 => ?_) 0 (xLd z s) (by omega) ?_
        · refine x_iload DX5_sumSets_123 rfl ?_
          refine x_iconst 2 DX5_sumSets_125 (by decide) ?_
          refine x_iload_n 3 DX5_sumSets_126 rfl rfl ?_
          refine x_imul DX5_sumSets_127 ?_
          rw [show (2 : Int32) = nI 2 from rfl, pk_mul]
          refine x_icmp_ge 217 DX5_sumSets_128 (by decide) (fun c_128 => False.elim (by rw [nI_le1 (by omega) (by omega)] at c_128; omega)) (fun c_128 => ?_)
          refine x_iload DX5_sumSets_131 rfl ?_
          refine x_sipush 256 DX5_sumSets_133 (by decide) ?_
          refine x_icmp_ge 217 DX5_sumSets_136 (by decide) (fun c_136 => False.elim (by rw [show (256 : Int32) = nI 256 from rfl, nI_le1 (by omega) (by omega)] at c_136; omega)) (fun c_136 => ?_)
          refine x_iload DX5_sumSets_139 rfl ?_
          refine x_iload_n 3 DX5_sumSets_141 rfl rfl ?_
          refine x_isub DX5_sumSets_142 ?_
          rw [pk_sub (by omega), show 2 ^ s + j - 2 ^ s = j by omega]
          refine x_istore (lv' := [some (vR 22), some (vI (nI s)), some (vI (nI (2 ^ P s))), some (vI (nI (2 ^ s))), some (vI (nI (2 ^ s + j))), some (vI (nI j))]) DX5_sumSets_143 ⟨nlt rfl, nlt rfl⟩ rfl ?_
          refine x_aload_n 0 DX5_sumSets_145 rfl rfl ?_
          refine x_getr 1 (some 23) DX5_sumSets_146 (Or.inr F5_11) rfl rfl (hF.1 22 1 23 rfl) ?_
          refine x_iload DX5_sumSets_149 rfl ?_
          refine x_aload_n 0 DX5_sumSets_151 rfl rfl ?_
          refine x_getr 1 (some 23) DX5_sumSets_152 (Or.inr F5_11) rfl rfl (hF.1 22 1 23 rfl) ?_
          refine x_iload DX5_sumSets_155 rfl ?_
          refine x_iald (v := (y 23 j)) j (nI_cl1 (by omega)) DX5_sumSets_157 rfl (gIn.fx hF (c := 23) (n := 256) rfl (gIn_nI (by omega) (by omega))) rfl ?_
          refine x_iload_n 2 DX5_sumSets_158 rfl rfl ?_
          refine x_ixor DX5_sumSets_159 ?_
          refine x_iast (2 ^ s + j) (nI_cl1 (by omega)) DX5_sumSets_160 rfl (gIn.fx hF (c := 23) (n := 256) rfl (gIn_nI (by omega) (by omega))) (fun ι160 e_ι160 => ?_)
          refine x_aload_n 0 DX5_sumSets_161 rfl rfl ?_
          refine x_getr 2 (some 24) DX5_sumSets_162 (Or.inr F5_15) rfl rfl (hF.1 22 2 24 rfl) ?_
          refine x_iload DX5_sumSets_165 rfl ?_
          refine x_aload_n 0 DX5_sumSets_167 rfl rfl ?_
          refine x_getr 2 (some 24) DX5_sumSets_168 (Or.inr F5_15) rfl rfl (hF.1 22 2 24 rfl) ?_
          refine x_iload DX5_sumSets_171 rfl ?_
          refine x_iald (v := (y 24 j)) j (nI_cl1 (by omega)) DX5_sumSets_173 rfl (gIn.fx hF (c := 24) (n := 256) rfl (gIn_nI (by omega) (by omega))) (rd1 e_ι160 (by decide)) ?_
          refine x_aload_n 0 DX5_sumSets_174 rfl rfl ?_
          refine x_getr 0 (some 16) DX5_sumSets_175 (Or.inr F5_46) rfl rfl (hF.1 22 0 16 rfl) ?_
          refine x_getr 3 (some 20) DX5_sumSets_178 (Or.inr F5_83) rfl rfl (hF.1 16 3 20 rfl) ?_
          refine x_iload_n 1 DX5_sumSets_181 rfl rfl ?_
          refine x_iald (v := (y 20 s)) s (nI_cl1 (by omega)) DX5_sumSets_182 rfl (gIn.fx hF (c := 20) (n := 12) rfl (gIn_nI (by omega) (by omega))) (rd1 e_ι160 (by decide)) ?_
          refine x_iadd DX5_sumSets_183 ?_
          refine x_iast (2 ^ s + j) (nI_cl1 (by omega)) DX5_sumSets_184 rfl (gIn.fx hF (c := 24) (n := 256) rfl (gIn_nI (by omega) (by omega))) (fun ι184 e_ι184 => ?_)
          refine x_aload_n 0 DX5_sumSets_185 rfl rfl ?_
          refine x_getr 3 (some 25) DX5_sumSets_186 (Or.inr F5_18) rfl rfl (hF.1 22 3 25 rfl) ?_
          refine x_iload DX5_sumSets_189 rfl ?_
          refine x_aload_n 0 DX5_sumSets_191 rfl rfl ?_
          refine x_getr 3 (some 25) DX5_sumSets_192 (Or.inr F5_18) rfl rfl (hF.1 22 3 25 rfl) ?_
          refine x_iload DX5_sumSets_195 rfl ?_
          refine x_iald (v := (y 25 j)) j (nI_cl1 (by omega)) DX5_sumSets_197 rfl (gIn.fx hF (c := 25) (n := 256) rfl (gIn_nI (by omega) (by omega))) ((rd1 e_ι184 (by decide)).trans (rd1 e_ι160 (by decide))) ?_
          refine x_aload_n 0 DX5_sumSets_198 rfl rfl ?_
          refine x_getr 0 (some 16) DX5_sumSets_199 (Or.inr F5_46) rfl rfl (hF.1 22 0 16 rfl) ?_
          refine x_getr 2 (some 19) DX5_sumSets_202 (Or.inr F5_86) rfl rfl (hF.1 16 2 19 rfl) ?_
          refine x_iload_n 1 DX5_sumSets_205 rfl rfl ?_
          refine x_iald (v := (y 19 s)) s (nI_cl1 (by omega)) DX5_sumSets_206 rfl (gIn.fx hF (c := 19) (n := 12) rfl (gIn_nI (by omega) (by omega))) ((rd1 e_ι184 (by decide)).trans (rd1 e_ι160 (by decide))) ?_
          refine x_Se (av := [vI (y 25 j), vI (y 19 s)]) (rest := [vI (nI (2 ^ s + j)), vR 25]) (st' := [vI (imax (y 25 j) (y 19 s)), vI (nI (2 ^ s + j)), vR 25]) 0 0 DX5_sumSets_207 L5_89 rfl rfl ⟨nle rfl, nle rfl, nle rfl⟩ ⟨rfl, nle rfl⟩ ⟨rfl, nle rfl⟩ (j_max K (y 25 j) (y 19 s) ι184 ρ Λ) rfl ?_
          refine x_iast (2 ^ s + j) (nI_cl1 (by omega)) DX5_sumSets_210 rfl (gIn.fx hF (c := 25) (n := 256) rfl (gIn_nI (by omega) (by omega))) (fun ι210 e_ι210 => ?_)
          refine x_iinc ((nI (2 ^ s + j)) + 1) (lv' := [some (vR 22), some (vI (nI s)), some (vI (nI (2 ^ P s))), some (vI (nI (2 ^ s))), some (vI ((nI (2 ^ s + j)) + 1)), some (vI (nI j))]) DX5_sumSets_211 rfl rfl (nlt rfl) rfl ?_
          refine x_goto 123 DX5_sumSets_214 (by decide) ?_
          refine x_less (lv' := [some (vR 22), some (vI (nI s)), some (vI (nI (2 ^ P s))), some (vI (nI (2 ^ s))), some (vI ((nI (2 ^ s + j)) + 1)), none]) (less_ok (m := [true, true, true, true, true, false]) rfl) ?_
          refine x_lv (lv' := [some (vR 22), some (vI (nI s)), some (vI (nI (2 ^ P s))), some (vI (nI (2 ^ s))), some (vI (nI (2 ^ s + (j + 1)))), none]) (lvS (lvS (lvS (lvS (lvI (nI_1 _) (lvS rfl)))))) ?_
          have e2 : xSu2 s (nI (2 ^ P s)) j y = ι210 := by subst_vars; rfl
          rw [e2] at ih2
          exact ih2
        · rw [Nat.sub_zero]
          have ef : fo (xSu2 s (nI (2 ^ P s))) (2 ^ s) 0 (xLd z s) = xSu1 P s z := by rw [xSu1, em]
          rw [ef]
          refine x_iload DX5_sumSets_123 rfl ?_
          refine x_iconst 2 DX5_sumSets_125 (by decide) ?_
          refine x_iload_n 3 DX5_sumSets_126 rfl rfl ?_
          refine x_imul DX5_sumSets_127 ?_
          rw [show (2 : Int32) = nI 2 from rfl, pk_mul]
          refine x_icmp_ge 217 DX5_sumSets_128 (by decide) (fun c_128 => ?_) (fun c_128 => False.elim (c_128 (nI_le (by omega) (by omega))))
          refine x_iinc ((nI s) + 1) (lv' := [some (vR 22), some (vI ((nI s) + 1)), some (vI (nI (2 ^ P s))), some (vI (nI (2 ^ s))), some (vI (nI (2 ^ s + (2 ^ s)))), none]) DX5_sumSets_217 rfl rfl (nlt rfl) rfl ?_
          refine x_goto 22 DX5_sumSets_220 (by decide) ?_
          refine x_lv (lv' := [some (vR 22), some (vI (nI (s + 1))), some (vI (nI (2 ^ P s))), some (vI (nI (2 ^ s))), some (vI (nI (2 ^ s + (2 ^ s)))), none]) (lvS (lvI (nI_1 s) (lvS (lvS (lvS (lvS rfl)))))) ?_
          refine x_less (lv' := [some (vR 22), some (vI (nI (s + 1))), none, none, none, none]) (less_ok (m := [true, true, false, false, false, false]) rfl) ?_
          exact ih
      · refine x_iconst 1 DX5_sumSets_76 (by decide) ?_
        refine x_iload_n 1 DX5_sumSets_77 rfl rfl ?_
        refine x_ishl DX5_sumSets_78 ?_
        rw [nI_shl s (by omega)]
        refine x_goto 83 DX5_sumSets_79 (by decide) ?_
        refine x_ior DX5_sumSets_83 ?_
        refine x_puti 11 DX5_sumSets_84 F5_74 rfl (Or.inl rfl) rfl (fun ι84 e_ι84 => ?_)
        refine x_aload_n 0 DX5_sumSets_87 rfl rfl ?_
        refine x_getr 0 (some 16) DX5_sumSets_88 (Or.inr F5_46) rfl rfl (hF.1 22 0 16 rfl) ?_
        refine x_getr 0 (some 17) DX5_sumSets_91 (Or.inr F5_77) rfl rfl (hF.1 16 0 17 rfl) ?_
        refine x_iload_n 1 DX5_sumSets_94 rfl rfl ?_
        refine x_iald (v := (z 17 s)) s (nI_cl1 (by omega)) DX5_sumSets_95 rfl (gIn.fx hF (c := 17) (n := 12) rfl (gIn_nI (by omega) (by omega))) ((rd1 e_ι84 (by decide)).trans (rd1 e_ι55 (by decide))) ?_
        refine x_iconst 2 DX5_sumSets_96 (by decide) ?_
        refine x_icmp_ne 104 DX5_sumSets_97 (by decide) (fun c_97 => False.elim (by grind)) (fun c_97 => ?_)
        refine x_iconst 0 DX5_sumSets_100 (by decide) ?_
        refine x_goto 115 DX5_sumSets_101 (by decide) ?_
        refine x_istore_n 2 (lv' := [some (vR 22), some (vI (nI s)), some (vI 0), none, none, none]) DX5_sumSets_115 rfl ⟨nlt rfl, nlt rfl⟩ rfl ?_
        refine x_iconst 1 DX5_sumSets_116 (by decide) ?_
        refine x_iload_n 1 DX5_sumSets_117 rfl rfl ?_
        refine x_ishl DX5_sumSets_118 ?_
        rw [nI_shl s (by omega)]
        refine x_istore_n 3 (lv' := [some (vR 22), some (vI (nI s)), some (vI 0), some (vI (nI (2 ^ s))), none, none]) DX5_sumSets_119 rfl ⟨nlt rfl, nlt rfl⟩ rfl ?_
        refine x_iload_n 3 DX5_sumSets_120 rfl rfl ?_
        refine x_istore (lv' := [some (vR 22), some (vI (nI s)), some (vI 0), some (vI (nI (2 ^ s))), some (vI (nI (2 ^ s))), none]) DX5_sumSets_121 ⟨nlt rfl, nlt rfl⟩ rfl ?_
        refine x_lv (lv' := [some (vR 22), some (vI (nI s)), some (vI 0), some (vI (nI (2 ^ s))), some (vI (nI (2 ^ s + 0))), none]) (lvS (lvS (lvS (lvS (lvI rfl (lvS rfl)))))) ?_
        have em : mvI z P s = 0 := by rw [mvI, if_pos (by grind)]
        have el : ι84 = xLd z s := by rw [xLd]; subst_vars; first | (rw [if_pos (by grind), if_neg (by grind)]) | (rw [if_neg (by grind), if_pos (by grind)]) | (rw [if_neg (by grind), if_neg (by grind)])
        rw [el]
        refine lp0 (W := fun (j : Nat) (y : gIm) => gX K none 2 0 0 jX5_sumSets 123 [some (vR 22), some (vI (nI s)), some (vI 0), some (vI (nI (2 ^ s))), some (vI (nI (2 ^ s + j))), none] [] 0 0 y ρ Λ (fun r2 a b c => r2 = none ∧ a = (xSu P n ι) ∧ b = ρ ∧ c = Λ)) (xSu2 s 0) (2 ^ s) (fun j y hj ih2 => ?_) 0 (xLd z s) (by omega) ?_
        · refine x_iload DX5_sumSets_123 rfl ?_
          refine x_iconst 2 DX5_sumSets_125 (by decide) ?_
          refine x_iload_n 3 DX5_sumSets_126 rfl rfl ?_
          refine x_imul DX5_sumSets_127 ?_
          rw [show (2 : Int32) = nI 2 from rfl, pk_mul]
          refine x_icmp_ge 217 DX5_sumSets_128 (by decide) (fun c_128 => False.elim (by rw [nI_le1 (by omega) (by omega)] at c_128; omega)) (fun c_128 => ?_)
          refine x_iload DX5_sumSets_131 rfl ?_
          refine x_sipush 256 DX5_sumSets_133 (by decide) ?_
          refine x_icmp_ge 217 DX5_sumSets_136 (by decide) (fun c_136 => False.elim (by rw [show (256 : Int32) = nI 256 from rfl, nI_le1 (by omega) (by omega)] at c_136; omega)) (fun c_136 => ?_)
          refine x_iload DX5_sumSets_139 rfl ?_
          refine x_iload_n 3 DX5_sumSets_141 rfl rfl ?_
          refine x_isub DX5_sumSets_142 ?_
          rw [pk_sub (by omega), show 2 ^ s + j - 2 ^ s = j by omega]
          refine x_istore (lv' := [some (vR 22), some (vI (nI s)), some (vI 0), some (vI (nI (2 ^ s))), some (vI (nI (2 ^ s + j))), some (vI (nI j))]) DX5_sumSets_143 ⟨nlt rfl, nlt rfl⟩ rfl ?_
          refine x_aload_n 0 DX5_sumSets_145 rfl rfl ?_
          refine x_getr 1 (some 23) DX5_sumSets_146 (Or.inr F5_11) rfl rfl (hF.1 22 1 23 rfl) ?_
          refine x_iload DX5_sumSets_149 rfl ?_
          refine x_aload_n 0 DX5_sumSets_151 rfl rfl ?_
          refine x_getr 1 (some 23) DX5_sumSets_152 (Or.inr F5_11) rfl rfl (hF.1 22 1 23 rfl) ?_
          refine x_iload DX5_sumSets_155 rfl ?_
          refine x_iald (v := (y 23 j)) j (nI_cl1 (by omega)) DX5_sumSets_157 rfl (gIn.fx hF (c := 23) (n := 256) rfl (gIn_nI (by omega) (by omega))) rfl ?_
          refine x_iload_n 2 DX5_sumSets_158 rfl rfl ?_
          refine x_ixor DX5_sumSets_159 ?_
          refine x_iast (2 ^ s + j) (nI_cl1 (by omega)) DX5_sumSets_160 rfl (gIn.fx hF (c := 23) (n := 256) rfl (gIn_nI (by omega) (by omega))) (fun ι160 e_ι160 => ?_)
          refine x_aload_n 0 DX5_sumSets_161 rfl rfl ?_
          refine x_getr 2 (some 24) DX5_sumSets_162 (Or.inr F5_15) rfl rfl (hF.1 22 2 24 rfl) ?_
          refine x_iload DX5_sumSets_165 rfl ?_
          refine x_aload_n 0 DX5_sumSets_167 rfl rfl ?_
          refine x_getr 2 (some 24) DX5_sumSets_168 (Or.inr F5_15) rfl rfl (hF.1 22 2 24 rfl) ?_
          refine x_iload DX5_sumSets_171 rfl ?_
          refine x_iald (v := (y 24 j)) j (nI_cl1 (by omega)) DX5_sumSets_173 rfl (gIn.fx hF (c := 24) (n := 256) rfl (gIn_nI (by omega) (by omega))) (rd1 e_ι160 (by decide)) ?_
          refine x_aload_n 0 DX5_sumSets_174 rfl rfl ?_
          refine x_getr 0 (some 16) DX5_sumSets_175 (Or.inr F5_46) rfl rfl (hF.1 22 0 16 rfl) ?_
          refine x_getr 3 (some 20) DX5_sumSets_178 (Or.inr F5_83) rfl rfl (hF.1 16 3 20 rfl) ?_
          refine x_iload_n 1 DX5_sumSets_181 rfl rfl ?_
          refine x_iald (v := (y 20 s)) s (nI_cl1 (by omega)) DX5_sumSets_182 rfl (gIn.fx hF (c := 20) (n := 12) rfl (gIn_nI (by omega) (by omega))) (rd1 e_ι160 (by decide)) ?_
          refine x_iadd DX5_sumSets_183 ?_
          refine x_iast (2 ^ s + j) (nI_cl1 (by omega)) DX5_sumSets_184 rfl (gIn.fx hF (c := 24) (n := 256) rfl (gIn_nI (by omega) (by omega))) (fun ι184 e_ι184 => ?_)
          refine x_aload_n 0 DX5_sumSets_185 rfl rfl ?_
          refine x_getr 3 (some 25) DX5_sumSets_186 (Or.inr F5_18) rfl rfl (hF.1 22 3 25 rfl) ?_
          refine x_iload DX5_sumSets_189 rfl ?_
          refine x_aload_n 0 DX5_sumSets_191 rfl rfl ?_
          refine x_getr 3 (some 25) DX5_sumSets_192 (Or.inr F5_18) rfl rfl (hF.1 22 3 25 rfl) ?_
          refine x_iload DX5_sumSets_195 rfl ?_
          refine x_iald (v := (y 25 j)) j (nI_cl1 (by omega)) DX5_sumSets_197 rfl (gIn.fx hF (c := 25) (n := 256) rfl (gIn_nI (by omega) (by omega))) ((rd1 e_ι184 (by decide)).trans (rd1 e_ι160 (by decide))) ?_
          refine x_aload_n 0 DX5_sumSets_198 rfl rfl ?_
          refine x_getr 0 (some 16) DX5_sumSets_199 (Or.inr F5_46) rfl rfl (hF.1 22 0 16 rfl) ?_
          refine x_getr 2 (some 19) DX5_sumSets_202 (Or.inr F5_86) rfl rfl (hF.1 16 2 19 rfl) ?_
          refine x_iload_n 1 DX5_sumSets_205 rfl rfl ?_
          refine x_iald (v := (y 19 s)) s (nI_cl1 (by omega)) DX5_sumSets_206 rfl (gIn.fx hF (c := 19) (n := 12) rfl (gIn_nI (by omega) (by omega))) ((rd1 e_ι184 (by decide)).trans (rd1 e_ι160 (by decide))) ?_
          refine x_Se (av := [vI (y 25 j), vI (y 19 s)]) (rest := [vI (nI (2 ^ s + j)), vR 25]) (st' := [vI (imax (y 25 j) (y 19 s)), vI (nI (2 ^ s + j)), vR 25]) 0 0 DX5_sumSets_207 L5_89 rfl rfl ⟨nle rfl, nle rfl, nle rfl⟩ ⟨rfl, nle rfl⟩ ⟨rfl, nle rfl⟩ (j_max K (y 25 j) (y 19 s) ι184 ρ Λ) rfl ?_
          refine x_iast (2 ^ s + j) (nI_cl1 (by omega)) DX5_sumSets_210 rfl (gIn.fx hF (c := 25) (n := 256) rfl (gIn_nI (by omega) (by omega))) (fun ι210 e_ι210 => ?_)
          refine x_iinc ((nI (2 ^ s + j)) + 1) (lv' := [some (vR 22), some (vI (nI s)), some (vI 0), some (vI (nI (2 ^ s))), some (vI ((nI (2 ^ s + j)) + 1)), some (vI (nI j))]) DX5_sumSets_211 rfl rfl (nlt rfl) rfl ?_
          refine x_goto 123 DX5_sumSets_214 (by decide) ?_
          refine x_less (lv' := [some (vR 22), some (vI (nI s)), some (vI 0), some (vI (nI (2 ^ s))), some (vI ((nI (2 ^ s + j)) + 1)), none]) (less_ok (m := [true, true, true, true, true, false]) rfl) ?_
          refine x_lv (lv' := [some (vR 22), some (vI (nI s)), some (vI 0), some (vI (nI (2 ^ s))), some (vI (nI (2 ^ s + (j + 1)))), none]) (lvS (lvS (lvS (lvS (lvI (nI_1 _) (lvS rfl)))))) ?_
          have e2 : xSu2 s 0 j y = ι210 := by subst_vars; rfl
          rw [e2] at ih2
          exact ih2
        · rw [Nat.sub_zero]
          have ef : fo (xSu2 s 0) (2 ^ s) 0 (xLd z s) = xSu1 P s z := by rw [xSu1, em]
          rw [ef]
          refine x_iload DX5_sumSets_123 rfl ?_
          refine x_iconst 2 DX5_sumSets_125 (by decide) ?_
          refine x_iload_n 3 DX5_sumSets_126 rfl rfl ?_
          refine x_imul DX5_sumSets_127 ?_
          rw [show (2 : Int32) = nI 2 from rfl, pk_mul]
          refine x_icmp_ge 217 DX5_sumSets_128 (by decide) (fun c_128 => ?_) (fun c_128 => False.elim (c_128 (nI_le (by omega) (by omega))))
          refine x_iinc ((nI s) + 1) (lv' := [some (vR 22), some (vI ((nI s) + 1)), some (vI 0), some (vI (nI (2 ^ s))), some (vI (nI (2 ^ s + (2 ^ s)))), none]) DX5_sumSets_217 rfl rfl (nlt rfl) rfl ?_
          refine x_goto 22 DX5_sumSets_220 (by decide) ?_
          refine x_lv (lv' := [some (vR 22), some (vI (nI (s + 1))), some (vI 0), some (vI (nI (2 ^ s))), some (vI (nI (2 ^ s + (2 ^ s)))), none]) (lvS (lvI (nI_1 s) (lvS (lvS (lvS (lvS rfl)))))) ?_
          refine x_less (lv' := [some (vR 22), some (vI (nI (s + 1))), none, none, none, none]) (less_ok (m := [true, true, false, false, false, false]) rfl) ?_
          exact ih
    · refine x_iconst 1 DX5_sumSets_47 (by decide) ?_
      refine x_iload_n 1 DX5_sumSets_48 rfl rfl ?_
      refine x_ishl DX5_sumSets_49 ?_
      rw [nI_shl s (by omega)]
      refine x_goto 54 DX5_sumSets_50 (by decide) ?_
      refine x_ior DX5_sumSets_54 ?_
      refine x_puti 10 DX5_sumSets_55 F5_71 rfl (Or.inl rfl) rfl (fun ι55 e_ι55 => ?_)
      refine x_aload_n 0 DX5_sumSets_58 rfl rfl ?_
      refine x_dup DX5_sumSets_59 ?_
      refine x_geti (v := (z 22 11)) 11 DX5_sumSets_60 (Or.inl F5_74) rfl rfl (rd2 e_ι55 (by decide)) ?_
      refine x_aload_n 0 DX5_sumSets_63 rfl rfl ?_
      refine x_getr 0 (some 16) DX5_sumSets_64 (Or.inr F5_46) rfl rfl (hF.1 22 0 16 rfl) ?_
      refine x_getr 0 (some 17) DX5_sumSets_67 (Or.inr F5_77) rfl rfl (hF.1 16 0 17 rfl) ?_
      refine x_iload_n 1 DX5_sumSets_70 rfl rfl ?_
      refine x_iald (v := (z 17 s)) s (nI_cl1 (by omega)) DX5_sumSets_71 rfl (gIn.fx hF (c := 17) (n := 12) rfl (gIn_nI (by omega) (by omega))) (rd1 e_ι55 (by decide)) ?_
      refine x_iconst 2 DX5_sumSets_72 (by decide) ?_
      refine x_icmp_ne 82 DX5_sumSets_73 (by decide) (fun c_73 => ?_) (fun c_73 => False.elim (by grind))
      refine x_iconst 0 DX5_sumSets_82 (by decide) ?_
      refine x_ior DX5_sumSets_83 ?_
      refine x_puti 11 DX5_sumSets_84 F5_74 rfl (Or.inl rfl) rfl (fun ι84 e_ι84 => ?_)
      refine x_aload_n 0 DX5_sumSets_87 rfl rfl ?_
      refine x_getr 0 (some 16) DX5_sumSets_88 (Or.inr F5_46) rfl rfl (hF.1 22 0 16 rfl) ?_
      refine x_getr 0 (some 17) DX5_sumSets_91 (Or.inr F5_77) rfl rfl (hF.1 16 0 17 rfl) ?_
      refine x_iload_n 1 DX5_sumSets_94 rfl rfl ?_
      refine x_iald (v := (z 17 s)) s (nI_cl1 (by omega)) DX5_sumSets_95 rfl (gIn.fx hF (c := 17) (n := 12) rfl (gIn_nI (by omega) (by omega))) ((rd1 e_ι84 (by decide)).trans (rd1 e_ι55 (by decide))) ?_
      refine x_iconst 2 DX5_sumSets_96 (by decide) ?_
      refine x_icmp_ne 104 DX5_sumSets_97 (by decide) (fun c_97 => ?_) (fun c_97 => False.elim (by grind))
      refine x_iconst 1 DX5_sumSets_104 (by decide) ?_
      refine x_aload_n 0 DX5_sumSets_105 rfl rfl ?_
      refine x_getr 0 (some 16) DX5_sumSets_106 (Or.inr F5_46) rfl rfl (hF.1 22 0 16 rfl) ?_
      refine x_getr 1 (some 18) DX5_sumSets_109 (Or.inr F5_80) rfl rfl (hF.1 16 1 18 rfl) ?_
      refine x_iload_n 1 DX5_sumSets_112 rfl rfl ?_
      refine x_iald (v := (nI (P s))) s (nI_cl1 (by omega)) DX5_sumSets_113 rfl (gIn.fx hF (c := 18) (n := 12) rfl (gIn_nI (by omega) (by omega))) (((rd1 e_ι84 (by decide)).trans (rd1 e_ι55 (by decide))).trans (by rw [hz18]; exact (hPl s hs).1)) ?_
      refine x_ishl DX5_sumSets_114 ?_
      rw [nI_shl (P s) (by omega)]
      refine x_istore_n 2 (lv' := [some (vR 22), some (vI (nI s)), some (vI (nI (2 ^ P s))), none, none, none]) DX5_sumSets_115 rfl ⟨nlt rfl, nlt rfl⟩ rfl ?_
      refine x_iconst 1 DX5_sumSets_116 (by decide) ?_
      refine x_iload_n 1 DX5_sumSets_117 rfl rfl ?_
      refine x_ishl DX5_sumSets_118 ?_
      rw [nI_shl s (by omega)]
      refine x_istore_n 3 (lv' := [some (vR 22), some (vI (nI s)), some (vI (nI (2 ^ P s))), some (vI (nI (2 ^ s))), none, none]) DX5_sumSets_119 rfl ⟨nlt rfl, nlt rfl⟩ rfl ?_
      refine x_iload_n 3 DX5_sumSets_120 rfl rfl ?_
      refine x_istore (lv' := [some (vR 22), some (vI (nI s)), some (vI (nI (2 ^ P s))), some (vI (nI (2 ^ s))), some (vI (nI (2 ^ s))), none]) DX5_sumSets_121 ⟨nlt rfl, nlt rfl⟩ rfl ?_
      refine x_lv (lv' := [some (vR 22), some (vI (nI s)), some (vI (nI (2 ^ P s))), some (vI (nI (2 ^ s))), some (vI (nI (2 ^ s + 0))), none]) (lvS (lvS (lvS (lvS (lvI rfl (lvS rfl)))))) ?_
      have em : mvI z P s = (nI (2 ^ P s)) := by rw [mvI, if_neg (by grind)]
      have el : ι84 = xLd z s := by rw [xLd]; subst_vars; first | (rw [if_pos (by grind), if_neg (by grind)]) | (rw [if_neg (by grind), if_pos (by grind)]) | (rw [if_neg (by grind), if_neg (by grind)])
      rw [el]
      refine lp0 (W := fun (j : Nat) (y : gIm) => gX K none 2 0 0 jX5_sumSets 123 [some (vR 22), some (vI (nI s)), some (vI (nI (2 ^ P s))), some (vI (nI (2 ^ s))), some (vI (nI (2 ^ s + j))), none] [] 0 0 y ρ Λ (fun r2 a b c => r2 = none ∧ a = (xSu P n ι) ∧ b = ρ ∧ c = Λ)) (xSu2 s (nI (2 ^ P s))) (2 ^ s) (fun j y hj ih2 => ?_) 0 (xLd z s) (by omega) ?_
      · refine x_iload DX5_sumSets_123 rfl ?_
        refine x_iconst 2 DX5_sumSets_125 (by decide) ?_
        refine x_iload_n 3 DX5_sumSets_126 rfl rfl ?_
        refine x_imul DX5_sumSets_127 ?_
        rw [show (2 : Int32) = nI 2 from rfl, pk_mul]
        refine x_icmp_ge 217 DX5_sumSets_128 (by decide) (fun c_128 => False.elim (by rw [nI_le1 (by omega) (by omega)] at c_128; omega)) (fun c_128 => ?_)
        refine x_iload DX5_sumSets_131 rfl ?_
        refine x_sipush 256 DX5_sumSets_133 (by decide) ?_
        refine x_icmp_ge 217 DX5_sumSets_136 (by decide) (fun c_136 => False.elim (by rw [show (256 : Int32) = nI 256 from rfl, nI_le1 (by omega) (by omega)] at c_136; omega)) (fun c_136 => ?_)
        refine x_iload DX5_sumSets_139 rfl ?_
        refine x_iload_n 3 DX5_sumSets_141 rfl rfl ?_
        refine x_isub DX5_sumSets_142 ?_
        rw [pk_sub (by omega), show 2 ^ s + j - 2 ^ s = j by omega]
        refine x_istore (lv' := [some (vR 22), some (vI (nI s)), some (vI (nI (2 ^ P s))), some (vI (nI (2 ^ s))), some (vI (nI (2 ^ s + j))), some (vI (nI j))]) DX5_sumSets_143 ⟨nlt rfl, nlt rfl⟩ rfl ?_
        refine x_aload_n 0 DX5_sumSets_145 rfl rfl ?_
        refine x_getr 1 (some 23) DX5_sumSets_146 (Or.inr F5_11) rfl rfl (hF.1 22 1 23 rfl) ?_
        refine x_iload DX5_sumSets_149 rfl ?_
        refine x_aload_n 0 DX5_sumSets_151 rfl rfl ?_
        refine x_getr 1 (some 23) DX5_sumSets_152 (Or.inr F5_11) rfl rfl (hF.1 22 1 23 rfl) ?_
        refine x_iload DX5_sumSets_155 rfl ?_
        refine x_iald (v := (y 23 j)) j (nI_cl1 (by omega)) DX5_sumSets_157 rfl (gIn.fx hF (c := 23) (n := 256) rfl (gIn_nI (by omega) (by omega))) rfl ?_
        refine x_iload_n 2 DX5_sumSets_158 rfl rfl ?_
        refine x_ixor DX5_sumSets_159 ?_
        refine x_iast (2 ^ s + j) (nI_cl1 (by omega)) DX5_sumSets_160 rfl (gIn.fx hF (c := 23) (n := 256) rfl (gIn_nI (by omega) (by omega))) (fun ι160 e_ι160 => ?_)
        refine x_aload_n 0 DX5_sumSets_161 rfl rfl ?_
        refine x_getr 2 (some 24) DX5_sumSets_162 (Or.inr F5_15) rfl rfl (hF.1 22 2 24 rfl) ?_
        refine x_iload DX5_sumSets_165 rfl ?_
        refine x_aload_n 0 DX5_sumSets_167 rfl rfl ?_
        refine x_getr 2 (some 24) DX5_sumSets_168 (Or.inr F5_15) rfl rfl (hF.1 22 2 24 rfl) ?_
        refine x_iload DX5_sumSets_171 rfl ?_
        refine x_iald (v := (y 24 j)) j (nI_cl1 (by omega)) DX5_sumSets_173 rfl (gIn.fx hF (c := 24) (n := 256) rfl (gIn_nI (by omega) (by omega))) (rd1 e_ι160 (by decide)) ?_
        refine x_aload_n 0 DX5_sumSets_174 rfl rfl ?_
        refine x_getr 0 (some 16) DX5_sumSets_175 (Or.inr F5_46) rfl rfl (hF.1 22 0 16 rfl) ?_
        refine x_getr 3 (some 20) DX5_sumSets_178 (Or.inr F5_83) rfl rfl (hF.1 16 3 20 rfl) ?_
        refine x_iload_n 1 DX5_sumSets_181 rfl rfl ?_
        refine x_iald (v := (y 20 s)) s (nI_cl1 (by omega)) DX5_sumSets_182 rfl (gIn.fx hF (c := 20) (n := 12) rfl (gIn_nI (by omega) (by omega))) (rd1 e_ι160 (by decide)) ?_
        refine x_iadd DX5_sumSets_183 ?_
        refine x_iast (2 ^ s + j) (nI_cl1 (by omega)) DX5_sumSets_184 rfl (gIn.fx hF (c := 24) (n := 256) rfl (gIn_nI (by omega) (by omega))) (fun ι184 e_ι184 => ?_)
        refine x_aload_n 0 DX5_sumSets_185 rfl rfl ?_
        refine x_getr 3 (some 25) DX5_sumSets_186 (Or.inr F5_18) rfl rfl (hF.1 22 3 25 rfl) ?_
        refine x_iload DX5_sumSets_189 rfl ?_
        refine x_aload_n 0 DX5_sumSets_191 rfl rfl ?_
        refine x_getr 3 (some 25) DX5_sumSets_192 (Or.inr F5_18) rfl rfl (hF.1 22 3 25 rfl) ?_
        refine x_iload DX5_sumSets_195 rfl ?_
        refine x_iald (v := (y 25 j)) j (nI_cl1 (by omega)) DX5_sumSets_197 rfl (gIn.fx hF (c := 25) (n := 256) rfl (gIn_nI (by omega) (by omega))) ((rd1 e_ι184 (by decide)).trans (rd1 e_ι160 (by decide))) ?_
        refine x_aload_n 0 DX5_sumSets_198 rfl rfl ?_
        refine x_getr 0 (some 16) DX5_sumSets_199 (Or.inr F5_46) rfl rfl (hF.1 22 0 16 rfl) ?_
        refine x_getr 2 (some 19) DX5_sumSets_202 (Or.inr F5_86) rfl rfl (hF.1 16 2 19 rfl) ?_
        refine x_iload_n 1 DX5_sumSets_205 rfl rfl ?_
        refine x_iald (v := (y 19 s)) s (nI_cl1 (by omega)) DX5_sumSets_206 rfl (gIn.fx hF (c := 19) (n := 12) rfl (gIn_nI (by omega) (by omega))) ((rd1 e_ι184 (by decide)).trans (rd1 e_ι160 (by decide))) ?_
        refine x_Se (av := [vI (y 25 j), vI (y 19 s)]) (rest := [vI (nI (2 ^ s + j)), vR 25]) (st' := [vI (imax (y 25 j) (y 19 s)), vI (nI (2 ^ s + j)), vR 25]) 0 0 DX5_sumSets_207 L5_89 rfl rfl ⟨nle rfl, nle rfl, nle rfl⟩ ⟨rfl, nle rfl⟩ ⟨rfl, nle rfl⟩ (j_max K (y 25 j) (y 19 s) ι184 ρ Λ) rfl ?_
        refine x_iast (2 ^ s + j) (nI_cl1 (by omega)) DX5_sumSets_210 rfl (gIn.fx hF (c := 25) (n := 256) rfl (gIn_nI (by omega) (by omega))) (fun ι210 e_ι210 => ?_)
        refine x_iinc ((nI (2 ^ s + j)) + 1) (lv' := [some (vR 22), some (vI (nI s)), some (vI (nI (2 ^ P s))), some (vI (nI (2 ^ s))), some (vI ((nI (2 ^ s + j)) + 1)), some (vI (nI j))]) DX5_sumSets_211 rfl rfl (nlt rfl) rfl ?_
        refine x_goto 123 DX5_sumSets_214 (by decide) ?_
        refine x_less (lv' := [some (vR 22), some (vI (nI s)), some (vI (nI (2 ^ P s))), some (vI (nI (2 ^ s))), some (vI ((nI (2 ^ s + j)) + 1)), none]) (less_ok (m := [true, true, true, true, true, false]) rfl) ?_
        refine x_lv (lv' := [some (vR 22), some (vI (nI s)), some (vI (nI (2 ^ P s))), some (vI (nI (2 ^ s))), some (vI (nI (2 ^ s + (j + 1)))), none]) (lvS (lvS (lvS (lvS (lvI (nI_1 _) (lvS rfl)))))) ?_
        have e2 : xSu2 s (nI (2 ^ P s)) j y = ι210 := by subst_vars; rfl
        rw [e2] at ih2
        exact ih2
      · rw [Nat.sub_zero]
        have ef : fo (xSu2 s (nI (2 ^ P s))) (2 ^ s) 0 (xLd z s) = xSu1 P s z := by rw [xSu1, em]
        rw [ef]
        refine x_iload DX5_sumSets_123 rfl ?_
        refine x_iconst 2 DX5_sumSets_125 (by decide) ?_
        refine x_iload_n 3 DX5_sumSets_126 rfl rfl ?_
        refine x_imul DX5_sumSets_127 ?_
        rw [show (2 : Int32) = nI 2 from rfl, pk_mul]
        refine x_icmp_ge 217 DX5_sumSets_128 (by decide) (fun c_128 => ?_) (fun c_128 => False.elim (c_128 (nI_le (by omega) (by omega))))
        refine x_iinc ((nI s) + 1) (lv' := [some (vR 22), some (vI ((nI s) + 1)), some (vI (nI (2 ^ P s))), some (vI (nI (2 ^ s))), some (vI (nI (2 ^ s + (2 ^ s)))), none]) DX5_sumSets_217 rfl rfl (nlt rfl) rfl ?_
        refine x_goto 22 DX5_sumSets_220 (by decide) ?_
        refine x_lv (lv' := [some (vR 22), some (vI (nI (s + 1))), some (vI (nI (2 ^ P s))), some (vI (nI (2 ^ s))), some (vI (nI (2 ^ s + (2 ^ s)))), none]) (lvS (lvI (nI_1 s) (lvS (lvS (lvS (lvS rfl)))))) ?_
        refine x_less (lv' := [some (vR 22), some (vI (nI (s + 1))), none, none, none, none]) (less_ok (m := [true, true, false, false, false, false]) rfl) ?_
        exact ih
  · have hx : fo (xSu1 P) (n - 0) 0 (up2 (up2 (up2 ι 22 10 0) 22 11 0) 23 0 (ι 22 12)) = xSu P n ι := rfl
    rw [hx] at hJ ⊢
    refine x_iload_n 1 DX5_sumSets_22 rfl rfl ?_
    refine x_aload_n 0 DX5_sumSets_23 rfl rfl ?_
    refine x_geti (v := (nI n)) 9 DX5_sumSets_24 (Or.inl F5_51) rfl rfl hJ.1 ?_
    refine x_icmp_ge 223 DX5_sumSets_27 (by decide) (fun c_27 => ?_) (fun c_27 => False.elim (c_27 (nI_le (by omega) (by omega))))
    exact x_return DX5_sumSets_223 rfl ⟨rfl, rfl, rfl, rfl⟩
