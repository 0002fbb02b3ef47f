/-! the model, II: houses -/
theorem m_brought (K : gK) (v what : Int32) (ι : gIm) (ρ : gRm) (Λ : gLm) (hF : gFix ρ Λ) (nh : Nat) (hH : ι 40 4 = nI nh) (hn : nh ≤ 24) : gCe K 3 0 0 jX12_brought [vR 40, vI v, vI what] ι ρ Λ (some (vI (rs (cBrought v what) (sBrought (ι 43) (ι 51) (ι 46) (ι 47) nh v what)))) (rsM (cBrought v what) 41 ι ι) ρ Λ := by
  refine gC_of (by decide) (nle rfl) ?_
  refine x_iload_n 1 DX12_brought_0 rfl rfl ?_
  refine x_iconst (-1) DX12_brought_1 (by decide) ?_
  refine x_icmp_eq 19 DX12_brought_2 (by decide) (fun c_2 => ?_) (fun c_2 => ?_)
  · refine x_iload_n 2 DX12_brought_19 rfl rfl ?_
    refine x_iconst 3 DX12_brought_20 (by decide) ?_
    refine x_Se (av := [vI what, vI 3]) (rest := []) (st' := [vI (b2i (0 ≤ what ∧ what < 3))]) 0 0 DX12_brought_21 L12_124 rfl rfl ⟨nle rfl, nle rfl, nle rfl⟩ ⟨rfl, nle rfl⟩ ⟨rfl, nle rfl⟩ (m_isIn K what 3 ι ρ Λ) rfl ?_
    refine x_if_ne_b 34 DX12_brought_24 (by decide) (fun c_24 => ?_) (fun c_24 => ?_)
    · refine x_iconst 0 DX12_brought_34 (by decide) ?_
      refine x_istore_n 3 (lv' := [some (vR 40), some (vI v), some (vI what), some (vI 0), none]) DX12_brought_35 rfl ⟨nlt rfl, nlt rfl⟩ rfl ?_
      refine x_iconst 0 DX12_brought_36 (by decide) ?_
      refine x_istore (lv' := [some (vR 40), some (vI v), some (vI what), some (vI 0), some (vI 0)]) DX12_brought_37 ⟨nlt rfl, nlt rfl⟩ rfl ?_
      refine x_lv (lv' := [some (vR 40), some (vI v), some (vI what), some (vI 0), some (vI (nI 0))]) (lvS (lvS (lvS (lvS (lvI nI_0.symm rfl))))) ?_
      refine lp0 (W := fun i a => gX K none 3 0 0 jX12_brought 39 [some (vR 40), some (vI v), some (vI what), some (vI a), some (vI (nI i))] [] 0 0 ι ρ Λ _) (fun i a => if ι 51 i = 0 ∨ (0 ≤ v ∧ ¬ ι 43 i = v) then a else a + sFath what (ι 46 i) (ι 47 i)) nh (fun i a hi ih => ?_) 0 0 (by omega) ?_
      · refine x_iload DX12_brought_39 rfl ?_
        refine x_aload_n 0 DX12_brought_41 rfl rfl ?_
        refine x_geti (v := (nI nh)) 4 DX12_brought_42 (Or.inl F12_144) rfl rfl hH ?_
        refine x_icmp_ge 141 DX12_brought_45 (by decide) (fun c_45 => False.elim (by rw [nI_le1 (by omega) (by omega)] at c_45; omega)) (fun c_45 => ?_)
        refine x_aload_n 0 DX12_brought_48 rfl rfl ?_
        refine x_getr 18 (some 51) DX12_brought_49 (Or.inr F12_41) rfl rfl (hF.1 40 18 51 rfl) ?_
        refine x_iload DX12_brought_52 rfl ?_
        refine x_zald (v := (ι 51 i)) i (nI_cl1 (by omega)) DX12_brought_54 rfl (gIn.fx hF (c := 51) (n := 24) rfl (gIn_nI (by omega) (by omega))) rfl ?_
        refine x_if_eq 135 DX12_brought_55 (by decide) (fun c_55 => ?_) (fun c_55 => ?_)
        · refine x_iinc ((nI i) + 1) (lv' := [some (vR 40), some (vI v), some (vI what), some (vI a), some (vI ((nI i) + 1))]) DX12_brought_135 rfl rfl (nlt rfl) rfl ?_
          refine x_goto 39 DX12_brought_138 (by decide) ?_
          refine x_lv (lv' := [some (vR 40), some (vI v), some (vI what), some (vI (if ι 51 i = 0 ∨ (0 ≤ v ∧ ¬ ι 43 i = v) then a else a + sFath what (ι 46 i) (ι 47 i))), some (vI (nI (i + 1)))]) (lvS (lvS (lvS (lvI (by grind [sFath]) (lvI (nI_1 i) rfl))))) ?_
          exact ih
        · refine x_iload_n 1 DX12_brought_58 rfl rfl ?_
          refine x_if_lt 76 DX12_brought_59 (by decide) (fun c_59 => ?_) (fun c_59 => False.elim (by grind))
          refine x_iload_n 3 DX12_brought_76 rfl rfl ?_
          refine x_iload_n 2 DX12_brought_77 rfl rfl ?_
          refine x_if_ne 103 DX12_brought_78 (by decide) (fun c_78 => ?_) (fun c_78 => ?_)
          · refine x_iload_n 2 DX12_brought_103 rfl rfl ?_
            refine x_iconst 1 DX12_brought_104 (by decide) ?_
            refine x_icmp_ne 118 DX12_brought_105 (by decide) (fun c_105 => ?_) (fun c_105 => ?_)
            · refine x_aload_n 0 DX12_brought_118 rfl rfl ?_
              refine x_getr 13 (some 46) DX12_brought_119 (Or.inr F12_25) rfl rfl (hF.1 40 13 46 rfl) ?_
              refine x_iload DX12_brought_122 rfl ?_
              refine x_iald (v := (ι 46 i)) i (nI_cl1 (by omega)) DX12_brought_124 rfl (gIn.fx hF (c := 46) (n := 24) rfl (gIn_nI (by omega) (by omega))) rfl ?_
              refine x_aload_n 0 DX12_brought_125 rfl rfl ?_
              refine x_getr 14 (some 47) DX12_brought_126 (Or.inr F12_28) rfl rfl (hF.1 40 14 47 rfl) ?_
              refine x_iload DX12_brought_129 rfl ?_
              refine x_iald (v := (ι 47 i)) i (nI_cl1 (by omega)) DX12_brought_131 rfl (gIn.fx hF (c := 47) (n := 24) rfl (gIn_nI (by omega) (by omega))) rfl ?_
              refine x_iadd DX12_brought_132 ?_
              refine x_iadd DX12_brought_133 ?_
              refine x_istore_n 3 (lv' := [some (vR 40), some (vI v), some (vI what), some (vI (a + ((ι 46 i) + (ι 47 i)))), some (vI (nI i))]) DX12_brought_134 rfl ⟨nlt rfl, nlt rfl⟩ rfl ?_
              refine x_iinc ((nI i) + 1) (lv' := [some (vR 40), some (vI v), some (vI what), some (vI (a + ((ι 46 i) + (ι 47 i)))), some (vI ((nI i) + 1))]) DX12_brought_135 rfl rfl (nlt rfl) rfl ?_
              refine x_goto 39 DX12_brought_138 (by decide) ?_
              refine x_lv (lv' := [some (vR 40), some (vI v), some (vI what), some (vI (if ι 51 i = 0 ∨ (0 ≤ v ∧ ¬ ι 43 i = v) then a else a + sFath what (ι 46 i) (ι 47 i))), some (vI (nI (i + 1)))]) (lvS (lvS (lvS (lvI (by grind [sFath]) (lvI (nI_1 i) rfl))))) ?_
              exact ih
            · refine x_aload_n 0 DX12_brought_108 rfl rfl ?_
              refine x_getr 13 (some 46) DX12_brought_109 (Or.inr F12_25) rfl rfl (hF.1 40 13 46 rfl) ?_
              refine x_iload DX12_brought_112 rfl ?_
              refine x_iald (v := (ι 46 i)) i (nI_cl1 (by omega)) DX12_brought_114 rfl (gIn.fx hF (c := 46) (n := 24) rfl (gIn_nI (by omega) (by omega))) rfl ?_
              refine x_goto 133 DX12_brought_115 (by decide) ?_
              refine x_iadd DX12_brought_133 ?_
              refine x_istore_n 3 (lv' := [some (vR 40), some (vI v), some (vI what), some (vI (a + (ι 46 i))), some (vI (nI i))]) DX12_brought_134 rfl ⟨nlt rfl, nlt rfl⟩ rfl ?_
              refine x_iinc ((nI i) + 1) (lv' := [some (vR 40), some (vI v), some (vI what), some (vI (a + (ι 46 i))), some (vI ((nI i) + 1))]) DX12_brought_135 rfl rfl (nlt rfl) rfl ?_
              refine x_goto 39 DX12_brought_138 (by decide) ?_
              refine x_lv (lv' := [some (vR 40), some (vI v), some (vI what), some (vI (if ι 51 i = 0 ∨ (0 ≤ v ∧ ¬ ι 43 i = v) then a else a + sFath what (ι 46 i) (ι 47 i))), some (vI (nI (i + 1)))]) (lvS (lvS (lvS (lvI (by grind [sFath]) (lvI (nI_1 i) rfl))))) ?_
              exact ih
          · refine x_iconst 0 DX12_brought_81 (by decide) ?_
            refine x_aload_n 0 DX12_brought_82 rfl rfl ?_
            refine x_getr 13 (some 46) DX12_brought_83 (Or.inr F12_25) rfl rfl (hF.1 40 13 46 rfl) ?_
            refine x_iload DX12_brought_86 rfl ?_
            refine x_iald (v := (ι 46 i)) i (nI_cl1 (by omega)) DX12_brought_88 rfl (gIn.fx hF (c := 46) (n := 24) rfl (gIn_nI (by omega) (by omega))) rfl ?_
            refine x_aload_n 0 DX12_brought_89 rfl rfl ?_
            refine x_getr 14 (some 47) DX12_brought_90 (Or.inr F12_28) rfl rfl (hF.1 40 14 47 rfl) ?_
            refine x_iload DX12_brought_93 rfl ?_
            refine x_iald (v := (ι 47 i)) i (nI_cl1 (by omega)) DX12_brought_95 rfl (gIn.fx hF (c := 47) (n := 24) rfl (gIn_nI (by omega) (by omega))) rfl ?_
            refine x_isub DX12_brought_96 ?_
            refine x_Se (av := [vI 0, vI ((ι 46 i) - (ι 47 i))]) (rest := [vI a]) (st' := [vI (imax 0 ((ι 46 i) - (ι 47 i))), vI a]) 0 0 DX12_brought_97 L12_135 rfl rfl ⟨nle rfl, nle rfl, nle rfl⟩ ⟨rfl, nle rfl⟩ ⟨rfl, nle rfl⟩ (j_max K 0 ((ι 46 i) - (ι 47 i)) ι ρ Λ) rfl ?_
            refine x_goto 133 DX12_brought_100 (by decide) ?_
            refine x_iadd DX12_brought_133 ?_
            refine x_istore_n 3 (lv' := [some (vR 40), some (vI v), some (vI what), some (vI (a + (imax 0 ((ι 46 i) - (ι 47 i))))), some (vI (nI i))]) DX12_brought_134 rfl ⟨nlt rfl, nlt rfl⟩ rfl ?_
            refine x_iinc ((nI i) + 1) (lv' := [some (vR 40), some (vI v), some (vI what), some (vI (a + (imax 0 ((ι 46 i) - (ι 47 i))))), some (vI ((nI i) + 1))]) DX12_brought_135 rfl rfl (nlt rfl) rfl ?_
            refine x_goto 39 DX12_brought_138 (by decide) ?_
            refine x_lv (lv' := [some (vR 40), some (vI v), some (vI what), some (vI (if ι 51 i = 0 ∨ (0 ≤ v ∧ ¬ ι 43 i = v) then a else a + sFath what (ι 46 i) (ι 47 i))), some (vI (nI (i + 1)))]) (lvS (lvS (lvS (lvI (by grind [sFath]) (lvI (nI_1 i) rfl))))) ?_
            exact ih
      · show gX K none 3 0 0 jX12_brought 39 [some (vR 40), some (vI v), some (vI what), some (vI (sBrought (ι 43) (ι 51) (ι 46) (ι 47) nh v what)), some (vI (nI nh))] [] 0 0 ι ρ Λ _
        refine x_iload DX12_brought_39 rfl ?_
        refine x_aload_n 0 DX12_brought_41 rfl rfl ?_
        refine x_geti (v := (nI nh)) 4 DX12_brought_42 (Or.inl F12_144) rfl rfl hH ?_
        refine x_icmp_ge 141 DX12_brought_45 (by decide) (fun c_45 => ?_) (fun c_45 => False.elim (c_45 (nI_le (by omega) (by omega))))
        refine x_iload_n 3 DX12_brought_141 rfl rfl ?_
        exact x_ireturn DX12_brought_142 rfl ⟨by grind [cBrought, rs], by grind [cBrought, rsM], rfl, rfl⟩
    · refine x_aload_n 0 DX12_brought_27 rfl rfl ?_
      refine x_bipush (-2) DX12_brought_28 (by decide) ?_
      refine x_Ve (ci := 12) (av := [vI (-2)]) (rest := []) (st' := [vI (-2)]) 0 0 DX12_brought_30 L12_120 rfl rfl rfl rfl rfl ⟨nle rfl, nle rfl, nle rfl⟩ ⟨rfl, nle rfl⟩ ⟨rfl, nle rfl⟩ (m_refuse K (-2) ι ρ Λ hF ⟨by decide, by decide⟩) rfl ?_
      refine x_nmι (fun ι30 e_ι30 => ?_)
      exact x_ireturn DX12_brought_33 rfl ⟨by grind [cBrought, rs], by grind [cBrought, rsM], rfl, rfl⟩
  · refine x_iload_n 1 DX12_brought_5 rfl rfl ?_
    refine x_iconst 4 DX12_brought_6 (by decide) ?_
    refine x_Se (av := [vI v, vI 4]) (rest := []) (st' := [vI (b2i (0 ≤ v ∧ v < 4))]) 0 0 DX12_brought_7 L12_124 rfl rfl ⟨nle rfl, nle rfl, nle rfl⟩ ⟨rfl, nle rfl⟩ ⟨rfl, nle rfl⟩ (m_isIn K v 4 ι ρ Λ) rfl ?_
    refine x_if_ne_b 19 DX12_brought_10 (by decide) (fun c_10 => ?_) (fun c_10 => ?_)
    · refine x_iload_n 2 DX12_brought_19 rfl rfl ?_
      refine x_iconst 3 DX12_brought_20 (by decide) ?_
      refine x_Se (av := [vI what, vI 3]) (rest := []) (st' := [vI (b2i (0 ≤ what ∧ what < 3))]) 0 0 DX12_brought_21 L12_124 rfl rfl ⟨nle rfl, nle rfl, nle rfl⟩ ⟨rfl, nle rfl⟩ ⟨rfl, nle rfl⟩ (m_isIn K what 3 ι ρ Λ) rfl ?_
      refine x_if_ne_b 34 DX12_brought_24 (by decide) (fun c_24 => ?_) (fun c_24 => ?_)
      · refine x_iconst 0 DX12_brought_34 (by decide) ?_
        refine x_istore_n 3 (lv' := [some (vR 40), some (vI v), some (vI what), some (vI 0), none]) DX12_brought_35 rfl ⟨nlt rfl, nlt rfl⟩ rfl ?_
        refine x_iconst 0 DX12_brought_36 (by decide) ?_
        refine x_istore (lv' := [some (vR 40), some (vI v), some (vI what), some (vI 0), some (vI 0)]) DX12_brought_37 ⟨nlt rfl, nlt rfl⟩ rfl ?_
        refine x_lv (lv' := [some (vR 40), some (vI v), some (vI what), some (vI 0), some (vI (nI 0))]) (lvS (lvS (lvS (lvS (lvI nI_0.symm rfl))))) ?_
        refine lp0 (W := fun i a => gX K none 3 0 0 jX12_brought 39 [some (vR 40), some (vI v), some (vI what), some (vI a), some (vI (nI i))] [] 0 0 ι ρ Λ _) (fun i a => if ι 51 i = 0 ∨ (0 ≤ v ∧ ¬ ι 43 i = v) then a else a + sFath what (ι 46 i) (ι 47 i)) nh (fun i a hi ih => ?_) 0 0 (by omega) ?_
        · refine x_iload DX12_brought_39 rfl ?_
          refine x_aload_n 0 DX12_brought_41 rfl rfl ?_
          refine x_geti (v := (nI nh)) 4 DX12_brought_42 (Or.inl F12_144) rfl rfl hH ?_
          refine x_icmp_ge 141 DX12_brought_45 (by decide) (fun c_45 => False.elim (by rw [nI_le1 (by omega) (by omega)] at c_45; omega)) (fun c_45 => ?_)
          refine x_aload_n 0 DX12_brought_48 rfl rfl ?_
          refine x_getr 18 (some 51) DX12_brought_49 (Or.inr F12_41) rfl rfl (hF.1 40 18 51 rfl) ?_
          refine x_iload DX12_brought_52 rfl ?_
          refine x_zald (v := (ι 51 i)) i (nI_cl1 (by omega)) DX12_brought_54 rfl (gIn.fx hF (c := 51) (n := 24) rfl (gIn_nI (by omega) (by omega))) rfl ?_
          refine x_if_eq 135 DX12_brought_55 (by decide) (fun c_55 => ?_) (fun c_55 => ?_)
          · refine x_iinc ((nI i) + 1) (lv' := [some (vR 40), some (vI v), some (vI what), some (vI a), some (vI ((nI i) + 1))]) DX12_brought_135 rfl rfl (nlt rfl) rfl ?_
            refine x_goto 39 DX12_brought_138 (by decide) ?_
            refine x_lv (lv' := [some (vR 40), some (vI v), some (vI what), some (vI (if ι 51 i = 0 ∨ (0 ≤ v ∧ ¬ ι 43 i = v) then a else a + sFath what (ι 46 i) (ι 47 i))), some (vI (nI (i + 1)))]) (lvS (lvS (lvS (lvI (by grind [sFath]) (lvI (nI_1 i) rfl))))) ?_
            exact ih
          · refine x_iload_n 1 DX12_brought_58 rfl rfl ?_
            refine x_if_lt 76 DX12_brought_59 (by decide) (fun c_59 => ?_) (fun c_59 => ?_)
            · refine x_iload_n 3 DX12_brought_76 rfl rfl ?_
              refine x_iload_n 2 DX12_brought_77 rfl rfl ?_
              refine x_if_ne 103 DX12_brought_78 (by decide) (fun c_78 => ?_) (fun c_78 => ?_)
              · refine x_iload_n 2 DX12_brought_103 rfl rfl ?_
                refine x_iconst 1 DX12_brought_104 (by decide) ?_
                refine x_icmp_ne 118 DX12_brought_105 (by decide) (fun c_105 => ?_) (fun c_105 => ?_)
                · refine x_aload_n 0 DX12_brought_118 rfl rfl ?_
                  refine x_getr 13 (some 46) DX12_brought_119 (Or.inr F12_25) rfl rfl (hF.1 40 13 46 rfl) ?_
                  refine x_iload DX12_brought_122 rfl ?_
                  refine x_iald (v := (ι 46 i)) i (nI_cl1 (by omega)) DX12_brought_124 rfl (gIn.fx hF (c := 46) (n := 24) rfl (gIn_nI (by omega) (by omega))) rfl ?_
                  refine x_aload_n 0 DX12_brought_125 rfl rfl ?_
                  refine x_getr 14 (some 47) DX12_brought_126 (Or.inr F12_28) rfl rfl (hF.1 40 14 47 rfl) ?_
                  refine x_iload DX12_brought_129 rfl ?_
                  refine x_iald (v := (ι 47 i)) i (nI_cl1 (by omega)) DX12_brought_131 rfl (gIn.fx hF (c := 47) (n := 24) rfl (gIn_nI (by omega) (by omega))) rfl ?_
                  refine x_iadd DX12_brought_132 ?_
                  refine x_iadd DX12_brought_133 ?_
                  refine x_istore_n 3 (lv' := [some (vR 40), some (vI v), some (vI what), some (vI (a + ((ι 46 i) + (ι 47 i)))), some (vI (nI i))]) DX12_brought_134 rfl ⟨nlt rfl, nlt rfl⟩ rfl ?_
                  refine x_iinc ((nI i) + 1) (lv' := [some (vR 40), some (vI v), some (vI what), some (vI (a + ((ι 46 i) + (ι 47 i)))), some (vI ((nI i) + 1))]) DX12_brought_135 rfl rfl (nlt rfl) rfl ?_
                  refine x_goto 39 DX12_brought_138 (by decide) ?_
                  refine x_lv (lv' := [some (vR 40), some (vI v), some (vI what), some (vI (if ι 51 i = 0 ∨ (0 ≤ v ∧ ¬ ι 43 i = v) then a else a + sFath what (ι 46 i) (ι 47 i))), some (vI (nI (i + 1)))]) (lvS (lvS (lvS (lvI (by grind [sFath]) (lvI (nI_1 i) rfl))))) ?_
                  exact ih
                · refine x_aload_n 0 DX12_brought_108 rfl rfl ?_
                  refine x_getr 13 (some 46) DX12_brought_109 (Or.inr F12_25) rfl rfl (hF.1 40 13 46 rfl) ?_
                  refine x_iload DX12_brought_112 rfl ?_
                  refine x_iald (v := (ι 46 i)) i (nI_cl1 (by omega)) DX12_brought_114 rfl (gIn.fx hF (c := 46) (n := 24) rfl (gIn_nI (by omega) (by omega))) rfl ?_
                  refine x_goto 133 DX12_brought_115 (by decide) ?_
                  refine x_iadd DX12_brought_133 ?_
                  refine x_istore_n 3 (lv' := [some (vR 40), some (vI v), some (vI what), some (vI (a + (ι 46 i))), some (vI (nI i))]) DX12_brought_134 rfl ⟨nlt rfl, nlt rfl⟩ rfl ?_
                  refine x_iinc ((nI i) + 1) (lv' := [some (vR 40), some (vI v), some (vI what), some (vI (a + (ι 46 i))), some (vI ((nI i) + 1))]) DX12_brought_135 rfl rfl (nlt rfl) rfl ?_
                  refine x_goto 39 DX12_brought_138 (by decide) ?_
                  refine x_lv (lv' := [some (vR 40), some (vI v), some (vI what), some (vI (if ι 51 i = 0 ∨ (0 ≤ v ∧ ¬ ι 43 i = v) then a else a + sFath what (ι 46 i) (ι 47 i))), some (vI (nI (i + 1)))]) (lvS (lvS (lvS (lvI (by grind [sFath]) (lvI (nI_1 i) rfl))))) ?_
                  exact ih
              · refine x_iconst 0 DX12_brought_81 (by decide) ?_
                refine x_aload_n 0 DX12_brought_82 rfl rfl ?_
                refine x_getr 13 (some 46) DX12_brought_83 (Or.inr F12_25) rfl rfl (hF.1 40 13 46 rfl) ?_
                refine x_iload DX12_brought_86 rfl ?_
                refine x_iald (v := (ι 46 i)) i (nI_cl1 (by omega)) DX12_brought_88 rfl (gIn.fx hF (c := 46) (n := 24) rfl (gIn_nI (by omega) (by omega))) rfl ?_
                refine x_aload_n 0 DX12_brought_89 rfl rfl ?_
                refine x_getr 14 (some 47) DX12_brought_90 (Or.inr F12_28) rfl rfl (hF.1 40 14 47 rfl) ?_
                refine x_iload DX12_brought_93 rfl ?_
                refine x_iald (v := (ι 47 i)) i (nI_cl1 (by omega)) DX12_brought_95 rfl (gIn.fx hF (c := 47) (n := 24) rfl (gIn_nI (by omega) (by omega))) rfl ?_
                refine x_isub DX12_brought_96 ?_
                refine x_Se (av := [vI 0, vI ((ι 46 i) - (ι 47 i))]) (rest := [vI a]) (st' := [vI (imax 0 ((ι 46 i) - (ι 47 i))), vI a]) 0 0 DX12_brought_97 L12_135 rfl rfl ⟨nle rfl, nle rfl, nle rfl⟩ ⟨rfl, nle rfl⟩ ⟨rfl, nle rfl⟩ (j_max K 0 ((ι 46 i) - (ι 47 i)) ι ρ Λ) rfl ?_
                refine x_goto 133 DX12_brought_100 (by decide) ?_
                refine x_iadd DX12_brought_133 ?_
                refine x_istore_n 3 (lv' := [some (vR 40), some (vI v), some (vI what), some (vI (a + (imax 0 ((ι 46 i) - (ι 47 i))))), some (vI (nI i))]) DX12_brought_134 rfl ⟨nlt rfl, nlt rfl⟩ rfl ?_
                refine x_iinc ((nI i) + 1) (lv' := [some (vR 40), some (vI v), some (vI what), some (vI (a + (imax 0 ((ι 46 i) - (ι 47 i))))), some (vI ((nI i) + 1))]) DX12_brought_135 rfl rfl (nlt rfl) rfl ?_
                refine x_goto 39 DX12_brought_138 (by decide) ?_
                refine x_lv (lv' := [some (vR 40), some (vI v), some (vI what), some (vI (if ι 51 i = 0 ∨ (0 ≤ v ∧ ¬ ι 43 i = v) then a else a + sFath what (ι 46 i) (ι 47 i))), some (vI (nI (i + 1)))]) (lvS (lvS (lvS (lvI (by grind [sFath]) (lvI (nI_1 i) rfl))))) ?_
                exact ih
            · refine x_aload_n 0 DX12_brought_62 rfl rfl ?_
              refine x_getr 10 (some 43) DX12_brought_63 (Or.inr F12_16) rfl rfl (hF.1 40 10 43 rfl) ?_
              refine x_iload DX12_brought_66 rfl ?_
              refine x_iald (v := (ι 43 i)) i (nI_cl1 (by omega)) DX12_brought_68 rfl (gIn.fx hF (c := 43) (n := 24) rfl (gIn_nI (by omega) (by omega))) rfl ?_
              refine x_iload_n 1 DX12_brought_69 rfl rfl ?_
              refine x_icmp_eq 76 DX12_brought_70 (by decide) (fun c_70 => ?_) (fun c_70 => ?_)
              · refine x_iload_n 3 DX12_brought_76 rfl rfl ?_
                refine x_iload_n 2 DX12_brought_77 rfl rfl ?_
                refine x_if_ne 103 DX12_brought_78 (by decide) (fun c_78 => ?_) (fun c_78 => ?_)
                · refine x_iload_n 2 DX12_brought_103 rfl rfl ?_
                  refine x_iconst 1 DX12_brought_104 (by decide) ?_
                  refine x_icmp_ne 118 DX12_brought_105 (by decide) (fun c_105 => ?_) (fun c_105 => ?_)
                  · refine x_aload_n 0 DX12_brought_118 rfl rfl ?_
                    refine x_getr 13 (some 46) DX12_brought_119 (Or.inr F12_25) rfl rfl (hF.1 40 13 46 rfl) ?_
                    refine x_iload DX12_brought_122 rfl ?_
                    refine x_iald (v := (ι 46 i)) i (nI_cl1 (by omega)) DX12_brought_124 rfl (gIn.fx hF (c := 46) (n := 24) rfl (gIn_nI (by omega) (by omega))) rfl ?_
                    refine x_aload_n 0 DX12_brought_125 rfl rfl ?_
                    refine x_getr 14 (some 47) DX12_brought_126 (Or.inr F12_28) rfl rfl (hF.1 40 14 47 rfl) ?_
                    refine x_iload DX12_brought_129 rfl ?_
                    refine x_iald (v := (ι 47 i)) i (nI_cl1 (by omega)) DX12_brought_131 rfl (gIn.fx hF (c := 47) (n := 24) rfl (gIn_nI (by omega) (by omega))) rfl ?_
                    refine x_iadd DX12_brought_132 ?_
                    refine x_iadd DX12_brought_133 ?_
                    refine x_istore_n 3 (lv' := [some (vR 40), some (vI v), some (vI what), some (vI (a + ((ι 46 i) + (ι 47 i)))), some (vI (nI i))]) DX12_brought_134 rfl ⟨nlt rfl, nlt rfl⟩ rfl ?_
                    refine x_iinc ((nI i) + 1) (lv' := [some (vR 40), some (vI v), some (vI what), some (vI (a + ((ι 46 i) + (ι 47 i)))), some (vI ((nI i) + 1))]) DX12_brought_135 rfl rfl (nlt rfl) rfl ?_
                    refine x_goto 39 DX12_brought_138 (by decide) ?_
                    refine x_lv (lv' := [some (vR 40), some (vI v), some (vI what), some (vI (if ι 51 i = 0 ∨ (0 ≤ v ∧ ¬ ι 43 i = v) then a else a + sFath what (ι 46 i) (ι 47 i))), some (vI (nI (i + 1)))]) (lvS (lvS (lvS (lvI (by grind [sFath]) (lvI (nI_1 i) rfl))))) ?_
                    exact ih
                  · refine x_aload_n 0 DX12_brought_108 rfl rfl ?_
                    refine x_getr 13 (some 46) DX12_brought_109 (Or.inr F12_25) rfl rfl (hF.1 40 13 46 rfl) ?_
                    refine x_iload DX12_brought_112 rfl ?_
                    refine x_iald (v := (ι 46 i)) i (nI_cl1 (by omega)) DX12_brought_114 rfl (gIn.fx hF (c := 46) (n := 24) rfl (gIn_nI (by omega) (by omega))) rfl ?_
                    refine x_goto 133 DX12_brought_115 (by decide) ?_
                    refine x_iadd DX12_brought_133 ?_
                    refine x_istore_n 3 (lv' := [some (vR 40), some (vI v), some (vI what), some (vI (a + (ι 46 i))), some (vI (nI i))]) DX12_brought_134 rfl ⟨nlt rfl, nlt rfl⟩ rfl ?_
                    refine x_iinc ((nI i) + 1) (lv' := [some (vR 40), some (vI v), some (vI what), some (vI (a + (ι 46 i))), some (vI ((nI i) + 1))]) DX12_brought_135 rfl rfl (nlt rfl) rfl ?_
                    refine x_goto 39 DX12_brought_138 (by decide) ?_
                    refine x_lv (lv' := [some (vR 40), some (vI v), some (vI what), some (vI (if ι 51 i = 0 ∨ (0 ≤ v ∧ ¬ ι 43 i = v) then a else a + sFath what (ι 46 i) (ι 47 i))), some (vI (nI (i + 1)))]) (lvS (lvS (lvS (lvI (by grind [sFath]) (lvI (nI_1 i) rfl))))) ?_
                    exact ih
                · refine x_iconst 0 DX12_brought_81 (by decide) ?_
                  refine x_aload_n 0 DX12_brought_82 rfl rfl ?_
                  refine x_getr 13 (some 46) DX12_brought_83 (Or.inr F12_25) rfl rfl (hF.1 40 13 46 rfl) ?_
                  refine x_iload DX12_brought_86 rfl ?_
                  refine x_iald (v := (ι 46 i)) i (nI_cl1 (by omega)) DX12_brought_88 rfl (gIn.fx hF (c := 46) (n := 24) rfl (gIn_nI (by omega) (by omega))) rfl ?_
                  refine x_aload_n 0 DX12_brought_89 rfl rfl ?_
                  refine x_getr 14 (some 47) DX12_brought_90 (Or.inr F12_28) rfl rfl (hF.1 40 14 47 rfl) ?_
                  refine x_iload DX12_brought_93 rfl ?_
                  refine x_iald (v := (ι 47 i)) i (nI_cl1 (by omega)) DX12_brought_95 rfl (gIn.fx hF (c := 47) (n := 24) rfl (gIn_nI (by omega) (by omega))) rfl ?_
                  refine x_isub DX12_brought_96 ?_
                  refine x_Se (av := [vI 0, vI ((ι 46 i) - (ι 47 i))]) (rest := [vI a]) (st' := [vI (imax 0 ((ι 46 i) - (ι 47 i))), vI a]) 0 0 DX12_brought_97 L12_135 rfl rfl ⟨nle rfl, nle rfl, nle rfl⟩ ⟨rfl, nle rfl⟩ ⟨rfl, nle rfl⟩ (j_max K 0 ((ι 46 i) - (ι 47 i)) ι ρ Λ) rfl ?_
                  refine x_goto 133 DX12_brought_100 (by decide) ?_
                  refine x_iadd DX12_brought_133 ?_
                  refine x_istore_n 3 (lv' := [some (vR 40), some (vI v), some (vI what), some (vI (a + (imax 0 ((ι 46 i) - (ι 47 i))))), some (vI (nI i))]) DX12_brought_134 rfl ⟨nlt rfl, nlt rfl⟩ rfl ?_
                  refine x_iinc ((nI i) + 1) (lv' := [some (vR 40), some (vI v), some (vI what), some (vI (a + (imax 0 ((ι 46 i) - (ι 47 i))))), some (vI ((nI i) + 1))]) DX12_brought_135 rfl rfl (nlt rfl) rfl ?_
                  refine x_goto 39 DX12_brought_138 (by decide) ?_
                  refine x_lv (lv' := [some (vR 40), some (vI v), some (vI what), some (vI (if ι 51 i = 0 ∨ (0 ≤ v ∧ ¬ ι 43 i = v) then a else a + sFath what (ι 46 i) (ι 47 i))), some (vI (nI (i + 1)))]) (lvS (lvS (lvS (lvI (by grind [sFath]) (lvI (nI_1 i) rfl))))) ?_
                  exact ih
              · refine x_goto 135 DX12_brought_73 (by decide) ?_
                refine x_iinc ((nI i) + 1) (lv' := [some (vR 40), some (vI v), some (vI what), some (vI a), some (vI ((nI i) + 1))]) DX12_brought_135 rfl rfl (nlt rfl) rfl ?_
                refine x_goto 39 DX12_brought_138 (by decide) ?_
                refine x_lv (lv' := [some (vR 40), some (vI v), some (vI what), some (vI (if ι 51 i = 0 ∨ (0 ≤ v ∧ ¬ ι 43 i = v) then a else a + sFath what (ι 46 i) (ι 47 i))), some (vI (nI (i + 1)))]) (lvS (lvS (lvS (lvI (by grind [sFath]) (lvI (nI_1 i) rfl))))) ?_
                exact ih
        · show gX K none 3 0 0 jX12_brought 39 [some (vR 40), some (vI v), some (vI what), some (vI (sBrought (ι 43) (ι 51) (ι 46) (ι 47) nh v what)), some (vI (nI nh))] [] 0 0 ι ρ Λ _
          refine x_iload DX12_brought_39 rfl ?_
          refine x_aload_n 0 DX12_brought_41 rfl rfl ?_
          refine x_geti (v := (nI nh)) 4 DX12_brought_42 (Or.inl F12_144) rfl rfl hH ?_
          refine x_icmp_ge 141 DX12_brought_45 (by decide) (fun c_45 => ?_) (fun c_45 => False.elim (c_45 (nI_le (by omega) (by omega))))
          refine x_iload_n 3 DX12_brought_141 rfl rfl ?_
          exact x_ireturn DX12_brought_142 rfl ⟨by grind [cBrought, rs], by grind [cBrought, rsM], rfl, rfl⟩
      · refine x_aload_n 0 DX12_brought_27 rfl rfl ?_
        refine x_bipush (-2) DX12_brought_28 (by decide) ?_
        refine x_Ve (ci := 12) (av := [vI (-2)]) (rest := []) (st' := [vI (-2)]) 0 0 DX12_brought_30 L12_120 rfl rfl rfl rfl rfl ⟨nle rfl, nle rfl, nle rfl⟩ ⟨rfl, nle rfl⟩ ⟨rfl, nle rfl⟩ (m_refuse K (-2) ι ρ Λ hF ⟨by decide, by decide⟩) rfl ?_
        refine x_nmι (fun ι30 e_ι30 => ?_)
        exact x_ireturn DX12_brought_33 rfl ⟨by grind [cBrought, rs], by grind [cBrought, rsM], rfl, rfl⟩
    · refine x_aload_n 0 DX12_brought_13 rfl rfl ?_
      refine x_iconst (-1) DX12_brought_14 (by decide) ?_
      refine x_Ve (ci := 12) (av := [vI (-1)]) (rest := []) (st' := [vI (-1)]) 0 0 DX12_brought_15 L12_120 rfl rfl rfl rfl rfl ⟨nle rfl, nle rfl, nle rfl⟩ ⟨rfl, nle rfl⟩ ⟨rfl, nle rfl⟩ (m_refuse K (-1) ι ρ Λ hF ⟨by decide, by decide⟩) rfl ?_
      refine x_nmι (fun ι15 e_ι15 => ?_)
      exact x_ireturn DX12_brought_18 rfl ⟨by grind [cBrought, rs], by grind [cBrought, rsM], rfl, rfl⟩
theorem m_ask (K : gK) (f : Int32) (ι : gIm) (ρ : gRm) (Λ : gLm) (hF : gFix ρ Λ) : gCe K 3 0 0 jX12_ask [vR 40, vI f] ι ρ Λ (some (vI (rs (wr f 0 10000) (ι 40 6)))) (rsM (wr f 0 10000) 41 ι (up2 ι 40 6 f)) ρ Λ := by
  refine gC_of (by decide) (nle rfl) ?_
  refine x_iload_n 1 DX12_ask_0 rfl rfl ?_
  refine x_iconst 0 DX12_ask_1 (by decide) ?_
  refine x_sipush 10000 DX12_ask_2 (by decide) ?_
  refine x_Se (av := [vI f, vI 0, vI 10000]) (rest := []) (st' := [vI (wr f 0 10000)]) 0 0 DX12_ask_5 L12_128 rfl rfl ⟨nle rfl, nle rfl, nle rfl⟩ ⟨rfl, nle rfl⟩ ⟨rfl, nle rfl⟩ (m_wrong K f 0 10000 ι ρ Λ) rfl ?_
  refine x_istore_n 2 (lv' := [some (vR 40), some (vI f), some (vI (wr f 0 10000)), none]) DX12_ask_8 rfl ⟨nlt rfl, nlt rfl⟩ rfl ?_
  refine x_iload_n 2 DX12_ask_9 rfl rfl ?_
  refine x_if_eq 19 DX12_ask_10 (by decide) (fun c_10 => ?_) (fun c_10 => ?_)
  · refine x_aload_n 0 DX12_ask_19 rfl rfl ?_
    refine x_geti (v := (ι 40 6)) 6 DX12_ask_20 (Or.inl F12_152) rfl rfl rfl ?_
    refine x_istore_n 3 (lv' := [some (vR 40), some (vI f), some (vI (wr f 0 10000)), some (vI (ι 40 6))]) DX12_ask_23 rfl ⟨nlt rfl, nlt rfl⟩ rfl ?_
    refine x_aload_n 0 DX12_ask_24 rfl rfl ?_
    refine x_iload_n 1 DX12_ask_25 rfl rfl ?_
    refine x_puti 6 DX12_ask_26 F12_152 rfl (Or.inl rfl) rfl (fun ι26 e_ι26 => ?_)
    refine x_iload_n 3 DX12_ask_29 rfl rfl ?_
    exact x_ireturn DX12_ask_30 rfl ⟨by grind [rs], by grind [rsM], rfl, rfl⟩
  · refine x_aload_n 0 DX12_ask_13 rfl rfl ?_
    refine x_iload_n 2 DX12_ask_14 rfl rfl ?_
    refine x_Ve (ci := 12) (av := [vI (wr f 0 10000)]) (rest := []) (st' := [vI (wr f 0 10000)]) 0 0 DX12_ask_15 L12_120 rfl rfl rfl rfl rfl ⟨nle rfl, nle rfl, nle rfl⟩ ⟨rfl, nle rfl⟩ ⟨rfl, nle rfl⟩ (m_refuse K (wr f 0 10000) ι ρ Λ hF (wr_in _ _ _ (by assumption))) rfl ?_
    refine x_nmι (fun ι15 e_ι15 => ?_)
    exact x_ireturn DX12_ask_18 rfl ⟨by grind [rs], by grind [rsM], rfl, rfl⟩
theorem m_allHands (K : gK)  (ι : gIm) (ρ : gRm) (Λ : gLm) (hF : gFix ρ Λ) (nh : Nat) (hH : ι 40 4 = nI nh) (hn : nh ≤ 24) : gCe K 1 0 0 jX12_allHands [vR 40] ι ρ Λ (some (vI (sHands (ι 50) (ι 44) nh))) ι ρ Λ := by
  refine gC_of (by decide) (nle rfl) ?_
  refine x_iconst 0 DX12_allHands_0 (by decide) ?_
  refine x_istore_n 1 (lv' := [some (vR 40), some (vI 0), none]) DX12_allHands_1 rfl ⟨nlt rfl, nlt rfl⟩ rfl ?_
  refine x_iconst 0 DX12_allHands_2 (by decide) ?_
  refine x_istore_n 2 (lv' := [some (vR 40), some (vI 0), some (vI 0)]) DX12_allHands_3 rfl ⟨nlt rfl, nlt rfl⟩ rfl ?_
  refine x_lv (lv' := [some (vR 40), some (vI 0), some (vI (nI 0))]) (lvS (lvS (lvI nI_0.symm rfl))) ?_
  refine lp0 (W := fun i a => gX K none 1 0 0 jX12_allHands 4 [some (vR 40), some (vI a), some (vI (nI i))] [] 0 0 ι ρ Λ _) (fun i a => a + (if ι 50 i = 0 then 0 else ι 44 i)) nh (fun i a hi ih => ?_) 0 0 (by omega) ?_
  · refine x_iload_n 2 DX12_allHands_4 rfl rfl ?_
    refine x_aload_n 0 DX12_allHands_5 rfl rfl ?_
    refine x_geti (v := (nI nh)) 4 DX12_allHands_6 (Or.inl F12_144) rfl rfl hH ?_
    refine x_icmp_ge 40 DX12_allHands_9 (by decide) (fun c_9 => False.elim (by rw [nI_le1 (by omega) (by omega)] at c_9; omega)) (fun c_9 => ?_)
    refine x_iload_n 1 DX12_allHands_12 rfl rfl ?_
    refine x_aload_n 0 DX12_allHands_13 rfl rfl ?_
    refine x_getr 17 (some 50) DX12_allHands_14 (Or.inr F12_37) rfl rfl (hF.1 40 17 50 rfl) ?_
    refine x_iload_n 2 DX12_allHands_17 rfl rfl ?_
    refine x_zald (v := (ι 50 i)) i (nI_cl1 (by omega)) DX12_allHands_18 rfl (gIn.fx hF (c := 50) (n := 24) rfl (gIn_nI (by omega) (by omega))) rfl ?_
    refine x_if_eq 31 DX12_allHands_19 (by decide) (fun c_19 => ?_) (fun c_19 => ?_)
    · refine x_iconst 0 DX12_allHands_31 (by decide) ?_
      refine x_iadd DX12_allHands_32 ?_
      refine x_istore_n 1 (lv' := [some (vR 40), some (vI (a + 0)), some (vI (nI i))]) DX12_allHands_33 rfl ⟨nlt rfl, nlt rfl⟩ rfl ?_
      refine x_iinc ((nI i) + 1) (lv' := [some (vR 40), some (vI (a + 0)), some (vI ((nI i) + 1))]) DX12_allHands_34 rfl rfl (nlt rfl) rfl ?_
      refine x_goto 4 DX12_allHands_37 (by decide) ?_
      refine x_lv (lv' := [some (vR 40), some (vI (a + (if ι 50 i = 0 then 0 else ι 44 i))), some (vI (nI (i + 1)))]) (lvS (lvI (by grind []) (lvI (nI_1 i) rfl))) ?_
      exact ih
    · refine x_aload_n 0 DX12_allHands_22 rfl rfl ?_
      refine x_getr 11 (some 44) DX12_allHands_23 (Or.inr F12_19) rfl rfl (hF.1 40 11 44 rfl) ?_
      refine x_iload_n 2 DX12_allHands_26 rfl rfl ?_
      refine x_iald (v := (ι 44 i)) i (nI_cl1 (by omega)) DX12_allHands_27 rfl (gIn.fx hF (c := 44) (n := 24) rfl (gIn_nI (by omega) (by omega))) rfl ?_
      refine x_goto 32 DX12_allHands_28 (by decide) ?_
      refine x_iadd DX12_allHands_32 ?_
      refine x_istore_n 1 (lv' := [some (vR 40), some (vI (a + (ι 44 i))), some (vI (nI i))]) DX12_allHands_33 rfl ⟨nlt rfl, nlt rfl⟩ rfl ?_
      refine x_iinc ((nI i) + 1) (lv' := [some (vR 40), some (vI (a + (ι 44 i))), some (vI ((nI i) + 1))]) DX12_allHands_34 rfl rfl (nlt rfl) rfl ?_
      refine x_goto 4 DX12_allHands_37 (by decide) ?_
      refine x_lv (lv' := [some (vR 40), some (vI (a + (if ι 50 i = 0 then 0 else ι 44 i))), some (vI (nI (i + 1)))]) (lvS (lvI (by grind []) (lvI (nI_1 i) rfl))) ?_
      exact ih
  · show gX K none 1 0 0 jX12_allHands 4 [some (vR 40), some (vI (sHands (ι 50) (ι 44) nh)), some (vI (nI nh))] [] 0 0 ι ρ Λ _
    refine x_iload_n 2 DX12_allHands_4 rfl rfl ?_
    refine x_aload_n 0 DX12_allHands_5 rfl rfl ?_
    refine x_geti (v := (nI nh)) 4 DX12_allHands_6 (Or.inl F12_144) rfl rfl hH ?_
    refine x_icmp_ge 40 DX12_allHands_9 (by decide) (fun c_9 => ?_) (fun c_9 => False.elim (c_9 (nI_le (by omega) (by omega))))
    refine x_iload_n 1 DX12_allHands_40 rfl rfl ?_
    exact x_ireturn DX12_allHands_41 rfl ⟨rfl, rfl, rfl, rfl⟩
theorem m_shareOf0 (K : gK) (h : Nat) (ι : gIm) (ρ : gRm) (Λ : gLm) (hF : gFix ρ Λ) (nh : Nat) (hH : ι 40 4 = nI nh) (hn : nh ≤ 24) (hh : h < nh) (hall : ι 50 h ≠ 0 → ¬ sHands (ι 50) (ι 44) nh = 0) : gCe K 2 0 0 jX12_shareOf [vR 40, vI (nI h)] ι ρ Λ (some (vI (sShare (ι 50) (ι 44) (ι 49) nh (ι 40 6) h))) ι ρ Λ := by
  refine gC_of (by decide) (nle rfl) ?_
  refine x_aload_n 0 DX12_shareOf_0 rfl rfl ?_
  refine x_getr 17 (some 50) DX12_shareOf_1 (Or.inr F12_37) rfl rfl (hF.1 40 17 50 rfl) ?_
  refine x_iload_n 1 DX12_shareOf_4 rfl rfl ?_
  refine x_zald (v := (ι 50 h)) h (nI_cl1 (by omega)) DX12_shareOf_5 rfl (gIn.fx hF (c := 50) (n := 24) rfl (gIn_nI (by omega) (by omega))) rfl ?_
  refine x_if_ne 11 DX12_shareOf_6 (by decide) (fun c_6 => ?_) (fun c_6 => ?_)
  · have hall := hall (by assumption)
    refine x_aload_n 0 DX12_shareOf_11 rfl rfl ?_
    refine x_Ve (ci := 12) (av := []) (rest := []) (st' := [vI (sHands (ι 50) (ι 44) nh)]) 0 0 DX12_shareOf_12 L12_155 rfl rfl rfl rfl rfl ⟨nle rfl, nle rfl, nle rfl⟩ ⟨rfl, nle rfl⟩ ⟨rfl, nle rfl⟩ (m_allHands K ι ρ Λ hF nh hH hn) rfl ?_
    refine x_istore_n 2 (lv' := [some (vR 40), some (vI (nI h)), some (vI (sHands (ι 50) (ι 44) nh)), none, none, none]) DX12_shareOf_15 rfl ⟨nlt rfl, nlt rfl⟩ rfl ?_
    refine x_aload_n 0 DX12_shareOf_16 rfl rfl ?_
    refine x_geti (v := (ι 40 6)) 6 DX12_shareOf_17 (Or.inl F12_152) rfl rfl rfl ?_
    refine x_istore_n 3 (lv' := [some (vR 40), some (vI (nI h)), some (vI (sHands (ι 50) (ι 44) nh)), some (vI (ι 40 6)), none, none]) DX12_shareOf_20 rfl ⟨nlt rfl, nlt rfl⟩ rfl ?_
    refine x_iconst 0 DX12_shareOf_21 (by decide) ?_
    refine x_istore (lv' := [some (vR 40), some (vI (nI h)), some (vI (sHands (ι 50) (ι 44) nh)), some (vI (ι 40 6)), some (vI 0), none]) DX12_shareOf_22 ⟨nlt rfl, nlt rfl⟩ rfl ?_
    refine x_iconst 0 DX12_shareOf_24 (by decide) ?_
    refine x_istore (lv' := [some (vR 40), some (vI (nI h)), some (vI (sHands (ι 50) (ι 44) nh)), some (vI (ι 40 6)), some (vI 0), some (vI 0)]) DX12_shareOf_25 ⟨nlt rfl, nlt rfl⟩ rfl ?_
    refine lp0 (W := fun (i : Nat) (a : Int32 × Int32) => gX K none 2 0 0 jX12_shareOf 27 [some (vR 40), some (vI (nI h)), some (vI (sHands (ι 50) (ι 44) nh)), some (vI a.1), some (vI a.2), some (vI (nI i))] [] 0 0 ι ρ Λ _) (fun i a => if ι 50 i = 0 then a else (a.1 - ι 40 6 * ι 44 i / (sHands (ι 50) (ι 44) nh), a.2 + (if ι 49 h < ι 49 i ∨ (ι 49 i = ι 49 h ∧ i < h) then 1 else 0))) nh (fun i a hi ih => ?_) 0 (ι 40 6, 0) (by omega) ?_
    · refine x_iload DX12_shareOf_27 rfl ?_
      refine x_aload_n 0 DX12_shareOf_29 rfl rfl ?_
      refine x_geti (v := (nI nh)) 4 DX12_shareOf_30 (Or.inl F12_144) rfl rfl hH ?_
      refine x_icmp_ge 120 DX12_shareOf_33 (by decide) (fun c_33 => False.elim (by rw [nI_le1 (by omega) (by omega)] at c_33; omega)) (fun c_33 => ?_)
      refine x_aload_n 0 DX12_shareOf_36 rfl rfl ?_
      refine x_getr 17 (some 50) DX12_shareOf_37 (Or.inr F12_37) rfl rfl (hF.1 40 17 50 rfl) ?_
      refine x_iload DX12_shareOf_40 rfl ?_
      refine x_zald (v := (ι 50 i)) i (nI_cl1 (by omega)) DX12_shareOf_42 rfl (gIn.fx hF (c := 50) (n := 24) rfl (gIn_nI (by omega) (by omega))) rfl ?_
      refine x_if_ne 49 DX12_shareOf_43 (by decide) (fun c_43 => ?_) (fun c_43 => ?_)
      · refine x_iload_n 3 DX12_shareOf_49 rfl rfl ?_
        refine x_aload_n 0 DX12_shareOf_50 rfl rfl ?_
        refine x_geti (v := (ι 40 6)) 6 DX12_shareOf_51 (Or.inl F12_152) rfl rfl rfl ?_
        refine x_aload_n 0 DX12_shareOf_54 rfl rfl ?_
        refine x_getr 11 (some 44) DX12_shareOf_55 (Or.inr F12_19) rfl rfl (hF.1 40 11 44 rfl) ?_
        refine x_iload DX12_shareOf_58 rfl ?_
        refine x_iald (v := (ι 44 i)) i (nI_cl1 (by omega)) DX12_shareOf_60 rfl (gIn.fx hF (c := 44) (n := 24) rfl (gIn_nI (by omega) (by omega))) rfl ?_
        refine x_imul DX12_shareOf_61 ?_
        refine x_iload_n 2 DX12_shareOf_62 rfl rfl ?_
        refine x_idiv DX12_shareOf_63 hall ?_
        refine x_isub DX12_shareOf_64 ?_
        refine x_istore_n 3 (lv' := [some (vR 40), some (vI (nI h)), some (vI (sHands (ι 50) (ι 44) nh)), some (vI (a.1 - (((ι 40 6) * (ι 44 i)) / (sHands (ι 50) (ι 44) nh)))), some (vI a.2), some (vI (nI i))]) DX12_shareOf_65 rfl ⟨nlt rfl, nlt rfl⟩ rfl ?_
        refine x_iload DX12_shareOf_66 rfl ?_
        refine x_aload_n 0 DX12_shareOf_68 rfl rfl ?_
        refine x_getr 16 (some 49) DX12_shareOf_69 (Or.inr F12_34) rfl rfl (hF.1 40 16 49 rfl) ?_
        refine x_iload DX12_shareOf_72 rfl ?_
        refine x_iald (v := (ι 49 i)) i (nI_cl1 (by omega)) DX12_shareOf_74 rfl (gIn.fx hF (c := 49) (n := 24) rfl (gIn_nI (by omega) (by omega))) rfl ?_
        refine x_aload_n 0 DX12_shareOf_75 rfl rfl ?_
        refine x_getr 16 (some 49) DX12_shareOf_76 (Or.inr F12_34) rfl rfl (hF.1 40 16 49 rfl) ?_
        refine x_iload_n 1 DX12_shareOf_79 rfl rfl ?_
        refine x_iald (v := (ι 49 h)) h (nI_cl1 (by omega)) DX12_shareOf_80 rfl (gIn.fx hF (c := 49) (n := 24) rfl (gIn_nI (by omega) (by omega))) rfl ?_
        refine x_icmp_gt 106 DX12_shareOf_81 (by decide) (fun c_81 => ?_) (fun c_81 => ?_)
        · refine x_iconst 1 DX12_shareOf_106 (by decide) ?_
          refine x_goto 111 DX12_shareOf_107 (by decide) ?_
          refine x_iadd DX12_shareOf_111 ?_
          refine x_istore (lv' := [some (vR 40), some (vI (nI h)), some (vI (sHands (ι 50) (ι 44) nh)), some (vI (a.1 - (((ι 40 6) * (ι 44 i)) / (sHands (ι 50) (ι 44) nh)))), some (vI (a.2 + 1)), some (vI (nI i))]) DX12_shareOf_112 ⟨nlt rfl, nlt rfl⟩ rfl ?_
          refine x_iinc ((nI i) + 1) (lv' := [some (vR 40), some (vI (nI h)), some (vI (sHands (ι 50) (ι 44) nh)), some (vI (a.1 - (((ι 40 6) * (ι 44 i)) / (sHands (ι 50) (ι 44) nh)))), some (vI (a.2 + 1)), some (vI ((nI i) + 1))]) DX12_shareOf_114 rfl rfl (nlt rfl) rfl ?_
          refine x_goto 27 DX12_shareOf_117 (by decide) ?_
          have hlt : nI i < nI h ↔ i < h := nI_lt1 (by omega) (by omega)
          have ea : (if ι 50 i = 0 then a else (a.1 - ι 40 6 * ι 44 i / (sHands (ι 50) (ι 44) nh), a.2 + (if ι 49 h < ι 49 i ∨ (ι 49 i = ι 49 h ∧ i < h) then 1 else 0))) = ((a.1 - (((ι 40 6) * (ι 44 i)) / (sHands (ι 50) (ι 44) nh))), (a.2 + 1)) := by grind
          rw [ea, ← nI_1] at ih
          exact ih
        · refine x_aload_n 0 DX12_shareOf_84 rfl rfl ?_
          refine x_getr 16 (some 49) DX12_shareOf_85 (Or.inr F12_34) rfl rfl (hF.1 40 16 49 rfl) ?_
          refine x_iload DX12_shareOf_88 rfl ?_
          refine x_iald (v := (ι 49 i)) i (nI_cl1 (by omega)) DX12_shareOf_90 rfl (gIn.fx hF (c := 49) (n := 24) rfl (gIn_nI (by omega) (by omega))) rfl ?_
          refine x_aload_n 0 DX12_shareOf_91 rfl rfl ?_
          refine x_getr 16 (some 49) DX12_shareOf_92 (Or.inr F12_34) rfl rfl (hF.1 40 16 49 rfl) ?_
          refine x_iload_n 1 DX12_shareOf_95 rfl rfl ?_
          refine x_iald (v := (ι 49 h)) h (nI_cl1 (by omega)) DX12_shareOf_96 rfl (gIn.fx hF (c := 49) (n := 24) rfl (gIn_nI (by omega) (by omega))) rfl ?_
          refine x_icmp_ne 110 DX12_shareOf_97 (by decide) (fun c_97 => ?_) (fun c_97 => ?_)
          · refine x_iconst 0 DX12_shareOf_110 (by decide) ?_
            refine x_iadd DX12_shareOf_111 ?_
            refine x_istore (lv' := [some (vR 40), some (vI (nI h)), some (vI (sHands (ι 50) (ι 44) nh)), some (vI (a.1 - (((ι 40 6) * (ι 44 i)) / (sHands (ι 50) (ι 44) nh)))), some (vI (a.2 + 0)), some (vI (nI i))]) DX12_shareOf_112 ⟨nlt rfl, nlt rfl⟩ rfl ?_
            refine x_iinc ((nI i) + 1) (lv' := [some (vR 40), some (vI (nI h)), some (vI (sHands (ι 50) (ι 44) nh)), some (vI (a.1 - (((ι 40 6) * (ι 44 i)) / (sHands (ι 50) (ι 44) nh)))), some (vI (a.2 + 0)), some (vI ((nI i) + 1))]) DX12_shareOf_114 rfl rfl (nlt rfl) rfl ?_
            refine x_goto 27 DX12_shareOf_117 (by decide) ?_
            have hlt : nI i < nI h ↔ i < h := nI_lt1 (by omega) (by omega)
            have ea : (if ι 50 i = 0 then a else (a.1 - ι 40 6 * ι 44 i / (sHands (ι 50) (ι 44) nh), a.2 + (if ι 49 h < ι 49 i ∨ (ι 49 i = ι 49 h ∧ i < h) then 1 else 0))) = ((a.1 - (((ι 40 6) * (ι 44 i)) / (sHands (ι 50) (ι 44) nh))), (a.2 + 0)) := by grind
            rw [ea, ← nI_1] at ih
            exact ih
          · refine x_iload DX12_shareOf_100 rfl ?_
            refine x_iload_n 1 DX12_shareOf_102 rfl rfl ?_
            refine x_icmp_ge 110 DX12_shareOf_103 (by decide) (fun c_103 => ?_) (fun c_103 => ?_)
            · refine x_iconst 0 DX12_shareOf_110 (by decide) ?_
              refine x_iadd DX12_shareOf_111 ?_
              refine x_istore (lv' := [some (vR 40), some (vI (nI h)), some (vI (sHands (ι 50) (ι 44) nh)), some (vI (a.1 - (((ι 40 6) * (ι 44 i)) / (sHands (ι 50) (ι 44) nh)))), some (vI (a.2 + 0)), some (vI (nI i))]) DX12_shareOf_112 ⟨nlt rfl, nlt rfl⟩ rfl ?_
              refine x_iinc ((nI i) + 1) (lv' := [some (vR 40), some (vI (nI h)), some (vI (sHands (ι 50) (ι 44) nh)), some (vI (a.1 - (((ι 40 6) * (ι 44 i)) / (sHands (ι 50) (ι 44) nh)))), some (vI (a.2 + 0)), some (vI ((nI i) + 1))]) DX12_shareOf_114 rfl rfl (nlt rfl) rfl ?_
              refine x_goto 27 DX12_shareOf_117 (by decide) ?_
              have hlt : nI i < nI h ↔ i < h := nI_lt1 (by omega) (by omega)
              have ea : (if ι 50 i = 0 then a else (a.1 - ι 40 6 * ι 44 i / (sHands (ι 50) (ι 44) nh), a.2 + (if ι 49 h < ι 49 i ∨ (ι 49 i = ι 49 h ∧ i < h) then 1 else 0))) = ((a.1 - (((ι 40 6) * (ι 44 i)) / (sHands (ι 50) (ι 44) nh))), (a.2 + 0)) := by grind
              rw [ea, ← nI_1] at ih
              exact ih
            · refine x_iconst 1 DX12_shareOf_106 (by decide) ?_
              refine x_goto 111 DX12_shareOf_107 (by decide) ?_
              refine x_iadd DX12_shareOf_111 ?_
              refine x_istore (lv' := [some (vR 40), some (vI (nI h)), some (vI (sHands (ι 50) (ι 44) nh)), some (vI (a.1 - (((ι 40 6) * (ι 44 i)) / (sHands (ι 50) (ι 44) nh)))), some (vI (a.2 + 1)), some (vI (nI i))]) DX12_shareOf_112 ⟨nlt rfl, nlt rfl⟩ rfl ?_
              refine x_iinc ((nI i) + 1) (lv' := [some (vR 40), some (vI (nI h)), some (vI (sHands (ι 50) (ι 44) nh)), some (vI (a.1 - (((ι 40 6) * (ι 44 i)) / (sHands (ι 50) (ι 44) nh)))), some (vI (a.2 + 1)), some (vI ((nI i) + 1))]) DX12_shareOf_114 rfl rfl (nlt rfl) rfl ?_
              refine x_goto 27 DX12_shareOf_117 (by decide) ?_
              have hlt : nI i < nI h ↔ i < h := nI_lt1 (by omega) (by omega)
              have ea : (if ι 50 i = 0 then a else (a.1 - ι 40 6 * ι 44 i / (sHands (ι 50) (ι 44) nh), a.2 + (if ι 49 h < ι 49 i ∨ (ι 49 i = ι 49 h ∧ i < h) then 1 else 0))) = ((a.1 - (((ι 40 6) * (ι 44 i)) / (sHands (ι 50) (ι 44) nh))), (a.2 + 1)) := by grind
              rw [ea, ← nI_1] at ih
              exact ih
      · refine x_goto 114 DX12_shareOf_46 (by decide) ?_
        refine x_iinc ((nI i) + 1) (lv' := [some (vR 40), some (vI (nI h)), some (vI (sHands (ι 50) (ι 44) nh)), some (vI a.1), some (vI a.2), some (vI ((nI i) + 1))]) DX12_shareOf_114 rfl rfl (nlt rfl) rfl ?_
        refine x_goto 27 DX12_shareOf_117 (by decide) ?_
        have ea : (if ι 50 i = 0 then a else (a.1 - ι 40 6 * ι 44 i / (sHands (ι 50) (ι 44) nh), a.2 + (if ι 49 h < ι 49 i ∨ (ι 49 i = ι 49 h ∧ i < h) then 1 else 0))) = a := if_pos (by assumption)
        rw [ea, ← nI_1] at ih
        exact ih
    · show gX K none 2 0 0 jX12_shareOf 27 [some (vR 40), some (vI (nI h)), some (vI (sHands (ι 50) (ι 44) nh)), some (vI ((sLeft (ι 50) (ι 44) (ι 49) nh (ι 40 6) (sHands (ι 50) (ι 44) nh) h).1)), some (vI ((sLeft (ι 50) (ι 44) (ι 49) nh (ι 40 6) (sHands (ι 50) (ι 44) nh) h).2)), some (vI (nI nh))] [] 0 0 ι ρ Λ _
      refine x_iload DX12_shareOf_27 rfl ?_
      refine x_aload_n 0 DX12_shareOf_29 rfl rfl ?_
      refine x_geti (v := (nI nh)) 4 DX12_shareOf_30 (Or.inl F12_144) rfl rfl hH ?_
      refine x_icmp_ge 120 DX12_shareOf_33 (by decide) (fun c_33 => ?_) (fun c_33 => False.elim (c_33 (nI_le (by omega) (by omega))))
      refine x_aload_n 0 DX12_shareOf_120 rfl rfl ?_
      refine x_geti (v := (ι 40 6)) 6 DX12_shareOf_121 (Or.inl F12_152) rfl rfl rfl ?_
      refine x_aload_n 0 DX12_shareOf_124 rfl rfl ?_
      refine x_getr 11 (some 44) DX12_shareOf_125 (Or.inr F12_19) rfl rfl (hF.1 40 11 44 rfl) ?_
      refine x_iload_n 1 DX12_shareOf_128 rfl rfl ?_
      refine x_iald (v := (ι 44 h)) h (nI_cl1 (by omega)) DX12_shareOf_129 rfl (gIn.fx hF (c := 44) (n := 24) rfl (gIn_nI (by omega) (by omega))) rfl ?_
      refine x_imul DX12_shareOf_130 ?_
      refine x_iload_n 2 DX12_shareOf_131 rfl rfl ?_
      refine x_idiv DX12_shareOf_132 hall ?_
      refine x_iload DX12_shareOf_133 rfl ?_
      refine x_iload_n 3 DX12_shareOf_135 rfl rfl ?_
      refine x_icmp_ge 143 DX12_shareOf_136 (by decide) (fun c_136 => ?_) (fun c_136 => ?_)
      · refine x_iconst 0 DX12_shareOf_143 (by decide) ?_
        refine x_iadd DX12_shareOf_144 ?_
        exact x_ireturn DX12_shareOf_145 rfl ⟨by grind [sShare], rfl, rfl, rfl⟩
      · refine x_iconst 1 DX12_shareOf_139 (by decide) ?_
        refine x_goto 144 DX12_shareOf_140 (by decide) ?_
        refine x_iadd DX12_shareOf_144 ?_
        exact x_ireturn DX12_shareOf_145 rfl ⟨by grind [sShare], rfl, rfl, rfl⟩
  · refine x_iconst 0 DX12_shareOf_9 (by decide) ?_
    exact x_ireturn DX12_shareOf_10 rfl ⟨by grind [sShare], rfl, rfl, rfl⟩
theorem m_shareOf (K : gK) (h : Int32) (ι : gIm) (ρ : gRm) (Λ : gLm) (hF : gFix ρ Λ) (nh : Nat) (hH : ι 40 4 = nI nh) (hn : nh ≤ 24) (hh : gIn h nh) (hall : ι 50 h.toNatClampNeg ≠ 0 → ¬ sHands (ι 50) (ι 44) nh = 0) : gCe K 2 0 0 jX12_shareOf [vR 40, vI h] ι ρ Λ (some (vI (sShare (ι 50) (ι 44) (ι 49) nh (ι 40 6) h.toNatClampNeg))) ι ρ Λ := by
  have g := m_shareOf0 K h.toNatClampNeg ι ρ Λ hF nh hH hn hh.2 hall
  rw [← hh.nI] at g
  exact g
