/-! the class, X: laying, strands -/
theorem x_lay (K : gK) (a b c : Int32) (ι : gIm) (ρ : gRm) (Λ : gLm) (hF : gFix ρ Λ) (nr : Nat) (hR : ι 7 1 = nI nr) (hr0 : nr ≤ 200) (hRl : ∀ r, r < nr → ρ 8 r = some (200 + r)) (hOw : ∀ r, r < nr → ρ (200 + r) 4 = some (400 + r) ∧ ρ (200 + r) 5 = some (600 + r)) (hLn : ∀ r, r < nr → Λ.2 (400 + r) = cn (ι (200 + r) 1) ∧ Λ.2 (600 + r) = cn (ι (200 + r) 1)) (hKd : ∀ r, r < nr → ι (200 + r) 1 = 0 ∨ ι (200 + r) 1 = 1 ∨ ι (200 + r) 1 = 2) (hfr : nr < 200 → 400 + nr ∉ Λ.1 ∧ 600 + nr ∉ Λ.1 ∧ 200 + nr ∉ Λ.1) (hle2 : nI nr ≤ 200) : gCe K 5 3 63 jX11_lay [vR 0, vI a, vI b, vI c] ι ρ Λ (some (vI (rs (cLay a b c (nI nr) (ι (200 + a.toNatClampNeg) 1) (ι (200 + b.toNatClampNeg) 1) (ι (200 + c.toNatClampNeg) 1) (xFree (ι (200 + a.toNatClampNeg) 6) (ι (200 + a.toNatClampNeg) 7) (ι (200 + a.toNatClampNeg) 3) (ι 2 0)) (xFree (ι (200 + b.toNatClampNeg) 6) (ι (200 + b.toNatClampNeg) 7) (ι (200 + b.toNatClampNeg) 3) (ι 2 0)) (xFree (ι (200 + c.toNatClampNeg) 6) (ι (200 + c.toNatClampNeg) 7) (ι (200 + c.toNatClampNeg) 3) (ι 2 0)) (nI nr)) (nI nr)))) (rsM (cLay a b c (nI nr) (ι (200 + a.toNatClampNeg) 1) (ι (200 + b.toNatClampNeg) 1) (ι (200 + c.toNatClampNeg) 1) (xFree (ι (200 + a.toNatClampNeg) 6) (ι (200 + a.toNatClampNeg) 7) (ι (200 + a.toNatClampNeg) 3) (ι 2 0)) (xFree (ι (200 + b.toNatClampNeg) 6) (ι (200 + b.toNatClampNeg) 7) (ι (200 + b.toNatClampNeg) 3) (ι 2 0)) (xFree (ι (200 + c.toNatClampNeg) 6) (ι (200 + c.toNatClampNeg) 7) (ι (200 + c.toNatClampNeg) 3) (ι 2 0)) (nI nr)) 1 ι (xLayO ι nr a.toNatClampNeg b.toNatClampNeg c.toNatClampNeg (ι 2 0))) (sel (cLay a b c (nI nr) (ι (200 + a.toNatClampNeg) 1) (ι (200 + b.toNatClampNeg) 1) (ι (200 + c.toNatClampNeg) 1) (xFree (ι (200 + a.toNatClampNeg) 6) (ι (200 + a.toNatClampNeg) 7) (ι (200 + a.toNatClampNeg) 3) (ι 2 0)) (xFree (ι (200 + b.toNatClampNeg) 6) (ι (200 + b.toNatClampNeg) 7) (ι (200 + b.toNatClampNeg) 3) (ι 2 0)) (xFree (ι (200 + c.toNatClampNeg) 6) (ι (200 + c.toNatClampNeg) 7) (ι (200 + c.toNatClampNeg) 3) (ι 2 0)) (nI nr)) (xRopeR ρ nr) ρ) (sel (cLay a b c (nI nr) (ι (200 + a.toNatClampNeg) 1) (ι (200 + b.toNatClampNeg) 1) (ι (200 + c.toNatClampNeg) 1) (xFree (ι (200 + a.toNatClampNeg) 6) (ι (200 + a.toNatClampNeg) 7) (ι (200 + a.toNatClampNeg) 3) (ι 2 0)) (xFree (ι (200 + b.toNatClampNeg) 6) (ι (200 + b.toNatClampNeg) 7) (ι (200 + b.toNatClampNeg) 3) (ι 2 0)) (xFree (ι (200 + c.toNatClampNeg) 6) (ι (200 + c.toNatClampNeg) 7) (ι (200 + c.toNatClampNeg) 3) (ι 2 0)) (nI nr)) (xRopeL Λ nr (3 * cn (ι (200 + a.toNatClampNeg) 1))) Λ) := by
  refine gC_of (by decide) (nle rfl) ?_
  by_cases f_a : 0 ≤ a ∧ a < nI nr
  · have b_a := nn_i f_a (by omega)
    refine x_aload_n 0 DX11_lay_0 rfl rfl ?_
    refine x_getr 3 (some 7) DX11_lay_1 (Or.inr F11_30) rfl rfl (hF.1 0 3 7 rfl) ?_
    refine x_iload_n 1 DX11_lay_4 rfl rfl ?_
    refine x_Ve (ci := 7) (av := [vI a]) (rest := []) (st' := [vR (200 + a.toNatClampNeg)]) 0 0 DX11_lay_5 L11_191 rfl rfl rfl rfl rfl ⟨nle rfl, nle rfl, nle rfl⟩ ⟨rfl, nle rfl⟩ ⟨rfl, nle rfl⟩ (x_findR K a ι ρ Λ hF nr hR hr0 hRl f_a) rfl ?_
    refine x_astore (lv' := [some (vR 0), some (vI a), some (vI b), some (vI c), some (vR (200 + a.toNatClampNeg)), none, none, none]) DX11_lay_8 ⟨nlt rfl, nlt rfl⟩ rfl ?_
    by_cases f_b : 0 ≤ b ∧ b < nI nr
    · have b_b := nn_i f_b (by omega)
      refine x_aload_n 0 DX11_lay_10 rfl rfl ?_
      refine x_getr 3 (some 7) DX11_lay_11 (Or.inr F11_30) rfl rfl (hF.1 0 3 7 rfl) ?_
      refine x_iload_n 2 DX11_lay_14 rfl rfl ?_
      refine x_Ve (ci := 7) (av := [vI b]) (rest := []) (st' := [vR (200 + b.toNatClampNeg)]) 0 0 DX11_lay_15 L11_191 rfl rfl rfl rfl rfl ⟨nle rfl, nle rfl, nle rfl⟩ ⟨rfl, nle rfl⟩ ⟨rfl, nle rfl⟩ (x_findR K b ι ρ Λ hF nr hR hr0 hRl f_b) rfl ?_
      refine x_astore (lv' := [some (vR 0), some (vI a), some (vI b), some (vI c), some (vR (200 + a.toNatClampNeg)), some (vR (200 + b.toNatClampNeg)), none, none]) DX11_lay_18 ⟨nlt rfl, nlt rfl⟩ rfl ?_
      by_cases f_c : 0 ≤ c ∧ c < nI nr
      · have b_c := nn_i f_c (by omega)
        refine x_aload_n 0 DX11_lay_20 rfl rfl ?_
        refine x_getr 3 (some 7) DX11_lay_21 (Or.inr F11_30) rfl rfl (hF.1 0 3 7 rfl) ?_
        refine x_iload_n 3 DX11_lay_24 rfl rfl ?_
        refine x_Ve (ci := 7) (av := [vI c]) (rest := []) (st' := [vR (200 + c.toNatClampNeg)]) 0 0 DX11_lay_25 L11_191 rfl rfl rfl rfl rfl ⟨nle rfl, nle rfl, nle rfl⟩ ⟨rfl, nle rfl⟩ ⟨rfl, nle rfl⟩ (x_findR K c ι ρ Λ hF nr hR hr0 hRl f_c) rfl ?_
        refine x_astore (lv' := [some (vR 0), some (vI a), some (vI b), some (vI c), some (vR (200 + a.toNatClampNeg)), some (vR (200 + b.toNatClampNeg)), some (vR (200 + c.toNatClampNeg)), none]) DX11_lay_28 ⟨nlt rfl, nlt rfl⟩ rfl ?_
        refine x_aload DX11_lay_30 rfl ?_
        refine x_ifnull 60 DX11_lay_32 (by decide) (fun h => by cases h) (fun _ _ => ?_)
        refine x_aload DX11_lay_35 rfl ?_
        refine x_ifnull 60 DX11_lay_37 (by decide) (fun h => by cases h) (fun _ _ => ?_)
        refine x_aload DX11_lay_40 rfl ?_
        refine x_ifnull 60 DX11_lay_42 (by decide) (fun h => by cases h) (fun _ _ => ?_)
        refine x_iload_n 1 DX11_lay_45 rfl rfl ?_
        refine x_iload_n 2 DX11_lay_46 rfl rfl ?_
        refine x_icmp_eq 60 DX11_lay_47 (by decide) (fun c_47 => ?_) (fun c_47 => ?_)
        · refine x_aload_n 0 DX11_lay_60 rfl rfl ?_
          refine x_iconst (-1) DX11_lay_61 (by decide) ?_
          refine x_Ve (ci := 11) (av := [vI (-1)]) (rest := []) (st' := [vI (-1)]) 0 0 DX11_lay_62 L11_72 rfl rfl rfl rfl rfl ⟨nle rfl, nle rfl, nle rfl⟩ ⟨rfl, nle rfl⟩ ⟨rfl, nle rfl⟩ (x_refuse K (-1) ι ρ Λ hF ⟨by decide, by decide⟩) rfl ?_
          refine x_nmι (fun ι62 e_ι62 => ?_)
          refine x_widen 3 63 (nle rfl) (nle rfl) ?_
          exact x_ireturn DX11_lay_65 rfl ⟨by grind [cLay, xFree, rs], by grind [cLay, xFree, rsM], by rw [sel, if_neg (by grind [cLay, xFree])], by rw [sel, if_neg (by grind [cLay, xFree])]⟩
        · refine x_iload_n 2 DX11_lay_50 rfl rfl ?_
          refine x_iload_n 3 DX11_lay_51 rfl rfl ?_
          refine x_icmp_eq 60 DX11_lay_52 (by decide) (fun c_52 => ?_) (fun c_52 => ?_)
          · refine x_aload_n 0 DX11_lay_60 rfl rfl ?_
            refine x_iconst (-1) DX11_lay_61 (by decide) ?_
            refine x_Ve (ci := 11) (av := [vI (-1)]) (rest := []) (st' := [vI (-1)]) 0 0 DX11_lay_62 L11_72 rfl rfl rfl rfl rfl ⟨nle rfl, nle rfl, nle rfl⟩ ⟨rfl, nle rfl⟩ ⟨rfl, nle rfl⟩ (x_refuse K (-1) ι ρ Λ hF ⟨by decide, by decide⟩) rfl ?_
            refine x_nmι (fun ι62 e_ι62 => ?_)
            refine x_widen 3 63 (nle rfl) (nle rfl) ?_
            exact x_ireturn DX11_lay_65 rfl ⟨by grind [cLay, xFree, rs], by grind [cLay, xFree, rsM], by rw [sel, if_neg (by grind [cLay, xFree])], by rw [sel, if_neg (by grind [cLay, xFree])]⟩
          · refine x_iload_n 1 DX11_lay_55 rfl rfl ?_
            refine x_iload_n 3 DX11_lay_56 rfl rfl ?_
            refine x_icmp_ne 66 DX11_lay_57 (by decide) (fun c_57 => ?_) (fun c_57 => ?_)
            · refine x_aload DX11_lay_66 rfl ?_
              refine x_geti (v := (ι (200 + a.toNatClampNeg) 1)) 1 DX11_lay_68 (Or.inr F11_193) (shp_rope (by omega)) rfl rfl ?_
              refine x_iconst 2 DX11_lay_71 (by decide) ?_
              refine x_icmp_eq 101 DX11_lay_72 (by decide) (fun c_72 => ?_) (fun c_72 => ?_)
              · refine x_aload_n 0 DX11_lay_101 rfl rfl ?_
                refine x_bipush (-2) DX11_lay_102 (by decide) ?_
                refine x_Ve (ci := 11) (av := [vI (-2)]) (rest := []) (st' := [vI (-2)]) 0 0 DX11_lay_104 L11_72 rfl rfl rfl rfl rfl ⟨nle rfl, nle rfl, nle rfl⟩ ⟨rfl, nle rfl⟩ ⟨rfl, nle rfl⟩ (x_refuse K (-2) ι ρ Λ hF ⟨by decide, by decide⟩) rfl ?_
                refine x_nmι (fun ι104 e_ι104 => ?_)
                refine x_widen 3 63 (nle rfl) (nle rfl) ?_
                exact x_ireturn DX11_lay_107 rfl ⟨by grind [cLay, xFree, rs], by grind [cLay, xFree, rsM], by rw [sel, if_neg (by grind [cLay, xFree])], by rw [sel, if_neg (by grind [cLay, xFree])]⟩
              · refine x_aload DX11_lay_75 rfl ?_
                refine x_geti (v := (ι (200 + b.toNatClampNeg) 1)) 1 DX11_lay_77 (Or.inr F11_193) (shp_rope (by omega)) rfl rfl ?_
                refine x_aload DX11_lay_80 rfl ?_
                refine x_geti (v := (ι (200 + a.toNatClampNeg) 1)) 1 DX11_lay_82 (Or.inr F11_193) (shp_rope (by omega)) rfl rfl ?_
                refine x_icmp_ne 101 DX11_lay_85 (by decide) (fun c_85 => ?_) (fun c_85 => ?_)
                · refine x_aload_n 0 DX11_lay_101 rfl rfl ?_
                  refine x_bipush (-2) DX11_lay_102 (by decide) ?_
                  refine x_Ve (ci := 11) (av := [vI (-2)]) (rest := []) (st' := [vI (-2)]) 0 0 DX11_lay_104 L11_72 rfl rfl rfl rfl rfl ⟨nle rfl, nle rfl, nle rfl⟩ ⟨rfl, nle rfl⟩ ⟨rfl, nle rfl⟩ (x_refuse K (-2) ι ρ Λ hF ⟨by decide, by decide⟩) rfl ?_
                  refine x_nmι (fun ι104 e_ι104 => ?_)
                  refine x_widen 3 63 (nle rfl) (nle rfl) ?_
                  exact x_ireturn DX11_lay_107 rfl ⟨by grind [cLay, xFree, rs], by grind [cLay, xFree, rsM], by rw [sel, if_neg (by grind [cLay, xFree])], by rw [sel, if_neg (by grind [cLay, xFree])]⟩
                · refine x_aload DX11_lay_88 rfl ?_
                  refine x_geti (v := (ι (200 + c.toNatClampNeg) 1)) 1 DX11_lay_90 (Or.inr F11_193) (shp_rope (by omega)) rfl rfl ?_
                  refine x_aload DX11_lay_93 rfl ?_
                  refine x_geti (v := (ι (200 + a.toNatClampNeg) 1)) 1 DX11_lay_95 (Or.inr F11_193) (shp_rope (by omega)) rfl rfl ?_
                  refine x_icmp_eq 108 DX11_lay_98 (by decide) (fun c_98 => ?_) (fun c_98 => ?_)
                  · refine x_aload_n 0 DX11_lay_108 rfl rfl ?_
                    refine x_getr 1 (some 2) DX11_lay_109 (Or.inr F11_16) rfl rfl (hF.1 0 1 2 rfl) ?_
                    refine x_geti (v := (ι 2 0)) 0 DX11_lay_112 (Or.inl F11_94) rfl rfl rfl ?_
                    refine x_istore (lv' := [some (vR 0), some (vI a), some (vI b), some (vI c), some (vR (200 + a.toNatClampNeg)), some (vR (200 + b.toNatClampNeg)), some (vR (200 + c.toNatClampNeg)), some (vI (ι 2 0))]) DX11_lay_115 ⟨nlt rfl, nlt rfl⟩ rfl ?_
                    refine x_aload DX11_lay_117 rfl ?_
                    refine x_iload DX11_lay_119 rfl ?_
                    refine x_Ve (ci := 6) (av := [vI (ι 2 0)]) (rest := []) (st' := [vI (xFree (ι (200 + a.toNatClampNeg) 6) (ι (200 + a.toNatClampNeg) 7) (ι (200 + a.toNatClampNeg) 3) (ι 2 0))]) 0 0 DX11_lay_121 L11_198 rfl rfl (shp_rope (by omega)) rfl rfl ⟨nle rfl, nle rfl, nle rfl⟩ ⟨rfl, nle rfl⟩ ⟨rfl, nle rfl⟩ (x_isFree K (ι 2 0) ι ρ Λ a.toNatClampNeg (by omega)) rfl ?_
                    refine x_if_eq 147 DX11_lay_124 (by decide) (fun c_124 => ?_) (fun c_124 => ?_)
                    · refine x_aload_n 0 DX11_lay_147 rfl rfl ?_
                      refine x_bipush (-3) DX11_lay_148 (by decide) ?_
                      refine x_Ve (ci := 11) (av := [vI (-3)]) (rest := []) (st' := [vI (-3)]) 0 0 DX11_lay_150 L11_72 rfl rfl rfl rfl rfl ⟨nle rfl, nle rfl, nle rfl⟩ ⟨rfl, nle rfl⟩ ⟨rfl, nle rfl⟩ (x_refuse K (-3) ι ρ Λ hF ⟨by decide, by decide⟩) rfl ?_
                      refine x_nmι (fun ι150 e_ι150 => ?_)
                      refine x_widen 3 63 (nle rfl) (nle rfl) ?_
                      exact x_ireturn DX11_lay_153 rfl ⟨by grind [cLay, xFree, rs], by grind [cLay, xFree, rsM], by rw [sel, if_neg (by grind [cLay, xFree])], by rw [sel, if_neg (by grind [cLay, xFree])]⟩
                    · refine x_aload DX11_lay_127 rfl ?_
                      refine x_iload DX11_lay_129 rfl ?_
                      refine x_Ve (ci := 6) (av := [vI (ι 2 0)]) (rest := []) (st' := [vI (xFree (ι (200 + b.toNatClampNeg) 6) (ι (200 + b.toNatClampNeg) 7) (ι (200 + b.toNatClampNeg) 3) (ι 2 0))]) 0 0 DX11_lay_131 L11_198 rfl rfl (shp_rope (by omega)) rfl rfl ⟨nle rfl, nle rfl, nle rfl⟩ ⟨rfl, nle rfl⟩ ⟨rfl, nle rfl⟩ (x_isFree K (ι 2 0) ι ρ Λ b.toNatClampNeg (by omega)) rfl ?_
                      refine x_if_eq 147 DX11_lay_134 (by decide) (fun c_134 => ?_) (fun c_134 => ?_)
                      · refine x_aload_n 0 DX11_lay_147 rfl rfl ?_
                        refine x_bipush (-3) DX11_lay_148 (by decide) ?_
                        refine x_Ve (ci := 11) (av := [vI (-3)]) (rest := []) (st' := [vI (-3)]) 0 0 DX11_lay_150 L11_72 rfl rfl rfl rfl rfl ⟨nle rfl, nle rfl, nle rfl⟩ ⟨rfl, nle rfl⟩ ⟨rfl, nle rfl⟩ (x_refuse K (-3) ι ρ Λ hF ⟨by decide, by decide⟩) rfl ?_
                        refine x_nmι (fun ι150 e_ι150 => ?_)
                        refine x_widen 3 63 (nle rfl) (nle rfl) ?_
                        exact x_ireturn DX11_lay_153 rfl ⟨by grind [cLay, xFree, rs], by grind [cLay, xFree, rsM], by rw [sel, if_neg (by grind [cLay, xFree])], by rw [sel, if_neg (by grind [cLay, xFree])]⟩
                      · refine x_aload DX11_lay_137 rfl ?_
                        refine x_iload DX11_lay_139 rfl ?_
                        refine x_Ve (ci := 6) (av := [vI (ι 2 0)]) (rest := []) (st' := [vI (xFree (ι (200 + c.toNatClampNeg) 6) (ι (200 + c.toNatClampNeg) 7) (ι (200 + c.toNatClampNeg) 3) (ι 2 0))]) 0 0 DX11_lay_141 L11_198 rfl rfl (shp_rope (by omega)) rfl rfl ⟨nle rfl, nle rfl, nle rfl⟩ ⟨rfl, nle rfl⟩ ⟨rfl, nle rfl⟩ (x_isFree K (ι 2 0) ι ρ Λ c.toNatClampNeg (by omega)) rfl ?_
                        refine x_if_ne 154 DX11_lay_144 (by decide) (fun c_144 => ?_) (fun c_144 => ?_)
                        · refine x_aload_n 0 DX11_lay_154 rfl rfl ?_
                          refine x_getr 3 (some 7) DX11_lay_155 (Or.inr F11_30) rfl rfl (hF.1 0 3 7 rfl) ?_
                          have gf := x_isFull K ι ρ Λ
                          rw [show ι 7 1 = (nI nr) from hR] at gf
                          refine x_Ve (ci := 7) (av := []) (rest := []) (st' := [vI (b2i (200 ≤ (nI nr)))]) 0 0 DX11_lay_158 L11_183 rfl rfl rfl rfl rfl ⟨nle rfl, nle rfl, nle rfl⟩ ⟨rfl, nle rfl⟩ ⟨rfl, nle rfl⟩ (gf) rfl ?_
                          refine x_if_eq_b 173 DX11_lay_161 (by decide) (fun c_161 => ?_) (fun c_161 => ?_)
                          · refine x_aload_n 0 DX11_lay_173 rfl rfl ?_
                            refine x_getr 3 (some 7) DX11_lay_174 (Or.inr F11_30) rfl rfl (hF.1 0 3 7 rfl) ?_
                            refine x_aload DX11_lay_177 rfl ?_
                            refine x_aload DX11_lay_179 rfl ?_
                            refine x_aload DX11_lay_181 rfl ?_
                            refine x_iload DX11_lay_183 rfl ?_
                            have hL9 : cn (ι (200 + a.toNatClampNeg) 1) ≤ 9 := by rcases hKd _ b_a with h | h | h <;> grind [cn]
                            have hkb : ι (200 + b.toNatClampNeg) 1 = ι (200 + a.toNatClampNeg) 1 := by grind
                            have hkc : ι (200 + c.toNatClampNeg) 1 = ι (200 + a.toNatClampNeg) 1 := by grind
                            have hlb := hLn _ b_b
                            have hlc := hLn _ b_c
                            rw [hkb] at hlb
                            rw [hkc] at hlc
                            refine x_Ve (ci := 7) (av := [vR (200 + a.toNatClampNeg), vR (200 + b.toNatClampNeg), vR (200 + c.toNatClampNeg), vI (ι 2 0)]) (rest := []) (st' := [vI (nI nr)]) 3 63 DX11_lay_185 L11_201 rfl rfl rfl rfl rfl ⟨nle rfl, nle rfl, nle rfl⟩ ⟨rfl, nle rfl⟩ ⟨rfl, nle rfl⟩ (x_join K (ι 2 0) ι ρ Λ hF nr hR (nr_lt (by assumption) hr0) _ hL9 a.toNatClampNeg b.toNatClampNeg c.toNatClampNeg b_a b_b b_c (hOw _ b_a) (hLn _ b_a) (hOw _ b_b) hlb (hOw _ b_c) hlc (hfr (nr_lt (by assumption) hr0)).1 (hfr (nr_lt (by assumption) hr0)).2.1 (hfr (nr_lt (by assumption) hr0)).2.2) rfl ?_
                            refine x_nmι (fun ι185 e_ι185 => ?_)
                            refine x_nmρ (fun ρ185 e_ρ185 => ?_)
                            refine x_nmΛ (fun Λ185 e_Λ185 => ?_)
                            exact x_ireturn DX11_lay_188 rfl ⟨by rw [rs, if_pos (by grind [cLay, xFree])], by rw [rsM, if_pos (by grind [cLay, xFree])]; assumption, by rw [sel, if_pos (by grind [cLay, xFree])]; assumption, by rw [sel, if_pos (by grind [cLay, xFree])]; assumption⟩
                          · refine x_aload_n 0 DX11_lay_164 rfl rfl ?_
                            refine x_bipush (-6) DX11_lay_165 (by decide) ?_
                            refine x_Ve (ci := 11) (av := [vI (-6)]) (rest := []) (st' := [vI (-6)]) 0 0 DX11_lay_167 L11_72 rfl rfl rfl rfl rfl ⟨nle rfl, nle rfl, nle rfl⟩ ⟨rfl, nle rfl⟩ ⟨rfl, nle rfl⟩ (x_refuse K (-6) ι ρ Λ hF ⟨by decide, by decide⟩) rfl ?_
                            refine x_nmι (fun ι167 e_ι167 => ?_)
                            refine x_goto 188 DX11_lay_170 (by decide) ?_
                            refine x_widen 3 63 (nle rfl) (nle rfl) ?_
                            exact x_ireturn DX11_lay_188 rfl ⟨by grind [cLay, xFree, rs], by grind [cLay, xFree, rsM], by rw [sel, if_neg (by grind [cLay, xFree])], by rw [sel, if_neg (by grind [cLay, xFree])]⟩
                        · refine x_aload_n 0 DX11_lay_147 rfl rfl ?_
                          refine x_bipush (-3) DX11_lay_148 (by decide) ?_
                          refine x_Ve (ci := 11) (av := [vI (-3)]) (rest := []) (st' := [vI (-3)]) 0 0 DX11_lay_150 L11_72 rfl rfl rfl rfl rfl ⟨nle rfl, nle rfl, nle rfl⟩ ⟨rfl, nle rfl⟩ ⟨rfl, nle rfl⟩ (x_refuse K (-3) ι ρ Λ hF ⟨by decide, by decide⟩) rfl ?_
                          refine x_nmι (fun ι150 e_ι150 => ?_)
                          refine x_widen 3 63 (nle rfl) (nle rfl) ?_
                          exact x_ireturn DX11_lay_153 rfl ⟨by grind [cLay, xFree, rs], by grind [cLay, xFree, rsM], by rw [sel, if_neg (by grind [cLay, xFree])], by rw [sel, if_neg (by grind [cLay, xFree])]⟩
                  · refine x_aload_n 0 DX11_lay_101 rfl rfl ?_
                    refine x_bipush (-2) DX11_lay_102 (by decide) ?_
                    refine x_Ve (ci := 11) (av := [vI (-2)]) (rest := []) (st' := [vI (-2)]) 0 0 DX11_lay_104 L11_72 rfl rfl rfl rfl rfl ⟨nle rfl, nle rfl, nle rfl⟩ ⟨rfl, nle rfl⟩ ⟨rfl, nle rfl⟩ (x_refuse K (-2) ι ρ Λ hF ⟨by decide, by decide⟩) rfl ?_
                    refine x_nmι (fun ι104 e_ι104 => ?_)
                    refine x_widen 3 63 (nle rfl) (nle rfl) ?_
                    exact x_ireturn DX11_lay_107 rfl ⟨by grind [cLay, xFree, rs], by grind [cLay, xFree, rsM], by rw [sel, if_neg (by grind [cLay, xFree])], by rw [sel, if_neg (by grind [cLay, xFree])]⟩
            · refine x_aload_n 0 DX11_lay_60 rfl rfl ?_
              refine x_iconst (-1) DX11_lay_61 (by decide) ?_
              refine x_Ve (ci := 11) (av := [vI (-1)]) (rest := []) (st' := [vI (-1)]) 0 0 DX11_lay_62 L11_72 rfl rfl rfl rfl rfl ⟨nle rfl, nle rfl, nle rfl⟩ ⟨rfl, nle rfl⟩ ⟨rfl, nle rfl⟩ (x_refuse K (-1) ι ρ Λ hF ⟨by decide, by decide⟩) rfl ?_
              refine x_nmι (fun ι62 e_ι62 => ?_)
              refine x_widen 3 63 (nle rfl) (nle rfl) ?_
              exact x_ireturn DX11_lay_65 rfl ⟨by grind [cLay, xFree, rs], by grind [cLay, xFree, rsM], by rw [sel, if_neg (by grind [cLay, xFree])], by rw [sel, if_neg (by grind [cLay, xFree])]⟩
      · refine x_aload_n 0 DX11_lay_20 rfl rfl ?_
        refine x_getr 3 (some 7) DX11_lay_21 (Or.inr F11_30) rfl rfl (hF.1 0 3 7 rfl) ?_
        refine x_iload_n 3 DX11_lay_24 rfl rfl ?_
        refine x_Ve (ci := 7) (av := [vI c]) (rest := []) (st' := [vN]) 0 0 DX11_lay_25 L11_191 rfl rfl rfl rfl rfl ⟨nle rfl, nle rfl, nle rfl⟩ ⟨rfl, nle rfl⟩ ⟨rfl, nle rfl⟩ (x_findRN K c ι ρ Λ hF nr hR hr0 f_c) rfl ?_
        refine x_astore (lv' := [some (vR 0), some (vI a), some (vI b), some (vI c), some (vR (200 + a.toNatClampNeg)), some (vR (200 + b.toNatClampNeg)), some (vN), none]) DX11_lay_28 ⟨nlt rfl, nlt rfl⟩ rfl ?_
        refine x_aload DX11_lay_30 rfl ?_
        refine x_ifnull 60 DX11_lay_32 (by decide) (fun h => by cases h) (fun _ _ => ?_)
        refine x_aload DX11_lay_35 rfl ?_
        refine x_ifnull 60 DX11_lay_37 (by decide) (fun h => by cases h) (fun _ _ => ?_)
        refine x_aload DX11_lay_40 rfl ?_
        refine x_ifnull 60 DX11_lay_42 (by decide) (fun _ => ?_) (fun _ h => by cases h)
        refine x_aload_n 0 DX11_lay_60 rfl rfl ?_
        refine x_iconst (-1) DX11_lay_61 (by decide) ?_
        refine x_Ve (ci := 11) (av := [vI (-1)]) (rest := []) (st' := [vI (-1)]) 0 0 DX11_lay_62 L11_72 rfl rfl rfl rfl rfl ⟨nle rfl, nle rfl, nle rfl⟩ ⟨rfl, nle rfl⟩ ⟨rfl, nle rfl⟩ (x_refuse K (-1) ι ρ Λ hF ⟨by decide, by decide⟩) rfl ?_
        refine x_nmι (fun ι62 e_ι62 => ?_)
        refine x_widen 3 63 (nle rfl) (nle rfl) ?_
        exact x_ireturn DX11_lay_65 rfl ⟨by grind [cLay, xFree, rs], by grind [cLay, xFree, rsM], by rw [sel, if_neg (by grind [cLay, xFree])], by rw [sel, if_neg (by grind [cLay, xFree])]⟩
    · refine x_aload_n 0 DX11_lay_10 rfl rfl ?_
      refine x_getr 3 (some 7) DX11_lay_11 (Or.inr F11_30) rfl rfl (hF.1 0 3 7 rfl) ?_
      refine x_iload_n 2 DX11_lay_14 rfl rfl ?_
      refine x_Ve (ci := 7) (av := [vI b]) (rest := []) (st' := [vN]) 0 0 DX11_lay_15 L11_191 rfl rfl rfl rfl rfl ⟨nle rfl, nle rfl, nle rfl⟩ ⟨rfl, nle rfl⟩ ⟨rfl, nle rfl⟩ (x_findRN K b ι ρ Λ hF nr hR hr0 f_b) rfl ?_
      refine x_astore (lv' := [some (vR 0), some (vI a), some (vI b), some (vI c), some (vR (200 + a.toNatClampNeg)), some (vN), none, none]) DX11_lay_18 ⟨nlt rfl, nlt rfl⟩ rfl ?_
      by_cases f_c : 0 ≤ c ∧ c < nI nr
      · have b_c := nn_i f_c (by omega)
        refine x_aload_n 0 DX11_lay_20 rfl rfl ?_
        refine x_getr 3 (some 7) DX11_lay_21 (Or.inr F11_30) rfl rfl (hF.1 0 3 7 rfl) ?_
        refine x_iload_n 3 DX11_lay_24 rfl rfl ?_
        refine x_Ve (ci := 7) (av := [vI c]) (rest := []) (st' := [vR (200 + c.toNatClampNeg)]) 0 0 DX11_lay_25 L11_191 rfl rfl rfl rfl rfl ⟨nle rfl, nle rfl, nle rfl⟩ ⟨rfl, nle rfl⟩ ⟨rfl, nle rfl⟩ (x_findR K c ι ρ Λ hF nr hR hr0 hRl f_c) rfl ?_
        refine x_astore (lv' := [some (vR 0), some (vI a), some (vI b), some (vI c), some (vR (200 + a.toNatClampNeg)), some (vN), some (vR (200 + c.toNatClampNeg)), none]) DX11_lay_28 ⟨nlt rfl, nlt rfl⟩ rfl ?_
        refine x_aload DX11_lay_30 rfl ?_
        refine x_ifnull 60 DX11_lay_32 (by decide) (fun h => by cases h) (fun _ _ => ?_)
        refine x_aload DX11_lay_35 rfl ?_
        refine x_ifnull 60 DX11_lay_37 (by decide) (fun _ => ?_) (fun _ h => by cases h)
        refine x_aload_n 0 DX11_lay_60 rfl rfl ?_
        refine x_iconst (-1) DX11_lay_61 (by decide) ?_
        refine x_Ve (ci := 11) (av := [vI (-1)]) (rest := []) (st' := [vI (-1)]) 0 0 DX11_lay_62 L11_72 rfl rfl rfl rfl rfl ⟨nle rfl, nle rfl, nle rfl⟩ ⟨rfl, nle rfl⟩ ⟨rfl, nle rfl⟩ (x_refuse K (-1) ι ρ Λ hF ⟨by decide, by decide⟩) rfl ?_
        refine x_nmι (fun ι62 e_ι62 => ?_)
        refine x_widen 3 63 (nle rfl) (nle rfl) ?_
        exact x_ireturn DX11_lay_65 rfl ⟨by grind [cLay, xFree, rs], by grind [cLay, xFree, rsM], by rw [sel, if_neg (by grind [cLay, xFree])], by rw [sel, if_neg (by grind [cLay, xFree])]⟩
      · refine x_aload_n 0 DX11_lay_20 rfl rfl ?_
        refine x_getr 3 (some 7) DX11_lay_21 (Or.inr F11_30) rfl rfl (hF.1 0 3 7 rfl) ?_
        refine x_iload_n 3 DX11_lay_24 rfl rfl ?_
        refine x_Ve (ci := 7) (av := [vI c]) (rest := []) (st' := [vN]) 0 0 DX11_lay_25 L11_191 rfl rfl rfl rfl rfl ⟨nle rfl, nle rfl, nle rfl⟩ ⟨rfl, nle rfl⟩ ⟨rfl, nle rfl⟩ (x_findRN K c ι ρ Λ hF nr hR hr0 f_c) rfl ?_
        refine x_astore (lv' := [some (vR 0), some (vI a), some (vI b), some (vI c), some (vR (200 + a.toNatClampNeg)), some (vN), some (vN), none]) DX11_lay_28 ⟨nlt rfl, nlt rfl⟩ rfl ?_
        refine x_aload DX11_lay_30 rfl ?_
        refine x_ifnull 60 DX11_lay_32 (by decide) (fun h => by cases h) (fun _ _ => ?_)
        refine x_aload DX11_lay_35 rfl ?_
        refine x_ifnull 60 DX11_lay_37 (by decide) (fun _ => ?_) (fun _ h => by cases h)
        refine x_aload_n 0 DX11_lay_60 rfl rfl ?_
        refine x_iconst (-1) DX11_lay_61 (by decide) ?_
        refine x_Ve (ci := 11) (av := [vI (-1)]) (rest := []) (st' := [vI (-1)]) 0 0 DX11_lay_62 L11_72 rfl rfl rfl rfl rfl ⟨nle rfl, nle rfl, nle rfl⟩ ⟨rfl, nle rfl⟩ ⟨rfl, nle rfl⟩ (x_refuse K (-1) ι ρ Λ hF ⟨by decide, by decide⟩) rfl ?_
        refine x_nmι (fun ι62 e_ι62 => ?_)
        refine x_widen 3 63 (nle rfl) (nle rfl) ?_
        exact x_ireturn DX11_lay_65 rfl ⟨by grind [cLay, xFree, rs], by grind [cLay, xFree, rsM], by rw [sel, if_neg (by grind [cLay, xFree])], by rw [sel, if_neg (by grind [cLay, xFree])]⟩
  · refine x_aload_n 0 DX11_lay_0 rfl rfl ?_
    refine x_getr 3 (some 7) DX11_lay_1 (Or.inr F11_30) rfl rfl (hF.1 0 3 7 rfl) ?_
    refine x_iload_n 1 DX11_lay_4 rfl rfl ?_
    refine x_Ve (ci := 7) (av := [vI a]) (rest := []) (st' := [vN]) 0 0 DX11_lay_5 L11_191 rfl rfl rfl rfl rfl ⟨nle rfl, nle rfl, nle rfl⟩ ⟨rfl, nle rfl⟩ ⟨rfl, nle rfl⟩ (x_findRN K a ι ρ Λ hF nr hR hr0 f_a) rfl ?_
    refine x_astore (lv' := [some (vR 0), some (vI a), some (vI b), some (vI c), some (vN), none, none, none]) DX11_lay_8 ⟨nlt rfl, nlt rfl⟩ rfl ?_
    by_cases f_b : 0 ≤ b ∧ b < nI nr
    · have b_b := nn_i f_b (by omega)
      refine x_aload_n 0 DX11_lay_10 rfl rfl ?_
      refine x_getr 3 (some 7) DX11_lay_11 (Or.inr F11_30) rfl rfl (hF.1 0 3 7 rfl) ?_
      refine x_iload_n 2 DX11_lay_14 rfl rfl ?_
      refine x_Ve (ci := 7) (av := [vI b]) (rest := []) (st' := [vR (200 + b.toNatClampNeg)]) 0 0 DX11_lay_15 L11_191 rfl rfl rfl rfl rfl ⟨nle rfl, nle rfl, nle rfl⟩ ⟨rfl, nle rfl⟩ ⟨rfl, nle rfl⟩ (x_findR K b ι ρ Λ hF nr hR hr0 hRl f_b) rfl ?_
      refine x_astore (lv' := [some (vR 0), some (vI a), some (vI b), some (vI c), some (vN), some (vR (200 + b.toNatClampNeg)), none, none]) DX11_lay_18 ⟨nlt rfl, nlt rfl⟩ rfl ?_
      by_cases f_c : 0 ≤ c ∧ c < nI nr
      · have b_c := nn_i f_c (by omega)
        refine x_aload_n 0 DX11_lay_20 rfl rfl ?_
        refine x_getr 3 (some 7) DX11_lay_21 (Or.inr F11_30) rfl rfl (hF.1 0 3 7 rfl) ?_
        refine x_iload_n 3 DX11_lay_24 rfl rfl ?_
        refine x_Ve (ci := 7) (av := [vI c]) (rest := []) (st' := [vR (200 + c.toNatClampNeg)]) 0 0 DX11_lay_25 L11_191 rfl rfl rfl rfl rfl ⟨nle rfl, nle rfl, nle rfl⟩ ⟨rfl, nle rfl⟩ ⟨rfl, nle rfl⟩ (x_findR K c ι ρ Λ hF nr hR hr0 hRl f_c) rfl ?_
        refine x_astore (lv' := [some (vR 0), some (vI a), some (vI b), some (vI c), some (vN), some (vR (200 + b.toNatClampNeg)), some (vR (200 + c.toNatClampNeg)), none]) DX11_lay_28 ⟨nlt rfl, nlt rfl⟩ rfl ?_
        refine x_aload DX11_lay_30 rfl ?_
        refine x_ifnull 60 DX11_lay_32 (by decide) (fun _ => ?_) (fun _ h => by cases h)
        refine x_aload_n 0 DX11_lay_60 rfl rfl ?_
        refine x_iconst (-1) DX11_lay_61 (by decide) ?_
        refine x_Ve (ci := 11) (av := [vI (-1)]) (rest := []) (st' := [vI (-1)]) 0 0 DX11_lay_62 L11_72 rfl rfl rfl rfl rfl ⟨nle rfl, nle rfl, nle rfl⟩ ⟨rfl, nle rfl⟩ ⟨rfl, nle rfl⟩ (x_refuse K (-1) ι ρ Λ hF ⟨by decide, by decide⟩) rfl ?_
        refine x_nmι (fun ι62 e_ι62 => ?_)
        refine x_widen 3 63 (nle rfl) (nle rfl) ?_
        exact x_ireturn DX11_lay_65 rfl ⟨by grind [cLay, xFree, rs], by grind [cLay, xFree, rsM], by rw [sel, if_neg (by grind [cLay, xFree])], by rw [sel, if_neg (by grind [cLay, xFree])]⟩
      · refine x_aload_n 0 DX11_lay_20 rfl rfl ?_
        refine x_getr 3 (some 7) DX11_lay_21 (Or.inr F11_30) rfl rfl (hF.1 0 3 7 rfl) ?_
        refine x_iload_n 3 DX11_lay_24 rfl rfl ?_
        refine x_Ve (ci := 7) (av := [vI c]) (rest := []) (st' := [vN]) 0 0 DX11_lay_25 L11_191 rfl rfl rfl rfl rfl ⟨nle rfl, nle rfl, nle rfl⟩ ⟨rfl, nle rfl⟩ ⟨rfl, nle rfl⟩ (x_findRN K c ι ρ Λ hF nr hR hr0 f_c) rfl ?_
        refine x_astore (lv' := [some (vR 0), some (vI a), some (vI b), some (vI c), some (vN), some (vR (200 + b.toNatClampNeg)), some (vN), none]) DX11_lay_28 ⟨nlt rfl, nlt rfl⟩ rfl ?_
        refine x_aload DX11_lay_30 rfl ?_
        refine x_ifnull 60 DX11_lay_32 (by decide) (fun _ => ?_) (fun _ h => by cases h)
        refine x_aload_n 0 DX11_lay_60 rfl rfl ?_
        refine x_iconst (-1) DX11_lay_61 (by decide) ?_
        refine x_Ve (ci := 11) (av := [vI (-1)]) (rest := []) (st' := [vI (-1)]) 0 0 DX11_lay_62 L11_72 rfl rfl rfl rfl rfl ⟨nle rfl, nle rfl, nle rfl⟩ ⟨rfl, nle rfl⟩ ⟨rfl, nle rfl⟩ (x_refuse K (-1) ι ρ Λ hF ⟨by decide, by decide⟩) rfl ?_
        refine x_nmι (fun ι62 e_ι62 => ?_)
        refine x_widen 3 63 (nle rfl) (nle rfl) ?_
        exact x_ireturn DX11_lay_65 rfl ⟨by grind [cLay, xFree, rs], by grind [cLay, xFree, rsM], by rw [sel, if_neg (by grind [cLay, xFree])], by rw [sel, if_neg (by grind [cLay, xFree])]⟩
    · refine x_aload_n 0 DX11_lay_10 rfl rfl ?_
      refine x_getr 3 (some 7) DX11_lay_11 (Or.inr F11_30) rfl rfl (hF.1 0 3 7 rfl) ?_
      refine x_iload_n 2 DX11_lay_14 rfl rfl ?_
      refine x_Ve (ci := 7) (av := [vI b]) (rest := []) (st' := [vN]) 0 0 DX11_lay_15 L11_191 rfl rfl rfl rfl rfl ⟨nle rfl, nle rfl, nle rfl⟩ ⟨rfl, nle rfl⟩ ⟨rfl, nle rfl⟩ (x_findRN K b ι ρ Λ hF nr hR hr0 f_b) rfl ?_
      refine x_astore (lv' := [some (vR 0), some (vI a), some (vI b), some (vI c), some (vN), some (vN), none, none]) DX11_lay_18 ⟨nlt rfl, nlt rfl⟩ rfl ?_
      by_cases f_c : 0 ≤ c ∧ c < nI nr
      · have b_c := nn_i f_c (by omega)
        refine x_aload_n 0 DX11_lay_20 rfl rfl ?_
        refine x_getr 3 (some 7) DX11_lay_21 (Or.inr F11_30) rfl rfl (hF.1 0 3 7 rfl) ?_
        refine x_iload_n 3 DX11_lay_24 rfl rfl ?_
        refine x_Ve (ci := 7) (av := [vI c]) (rest := []) (st' := [vR (200 + c.toNatClampNeg)]) 0 0 DX11_lay_25 L11_191 rfl rfl rfl rfl rfl ⟨nle rfl, nle rfl, nle rfl⟩ ⟨rfl, nle rfl⟩ ⟨rfl, nle rfl⟩ (x_findR K c ι ρ Λ hF nr hR hr0 hRl f_c) rfl ?_
        refine x_astore (lv' := [some (vR 0), some (vI a), some (vI b), some (vI c), some (vN), some (vN), some (vR (200 + c.toNatClampNeg)), none]) DX11_lay_28 ⟨nlt rfl, nlt rfl⟩ rfl ?_
        refine x_aload DX11_lay_30 rfl ?_
        refine x_ifnull 60 DX11_lay_32 (by decide) (fun _ => ?_) (fun _ h => by cases h)
        refine x_aload_n 0 DX11_lay_60 rfl rfl ?_
        refine x_iconst (-1) DX11_lay_61 (by decide) ?_
        refine x_Ve (ci := 11) (av := [vI (-1)]) (rest := []) (st' := [vI (-1)]) 0 0 DX11_lay_62 L11_72 rfl rfl rfl rfl rfl ⟨nle rfl, nle rfl, nle rfl⟩ ⟨rfl, nle rfl⟩ ⟨rfl, nle rfl⟩ (x_refuse K (-1) ι ρ Λ hF ⟨by decide, by decide⟩) rfl ?_
        refine x_nmι (fun ι62 e_ι62 => ?_)
        refine x_widen 3 63 (nle rfl) (nle rfl) ?_
        exact x_ireturn DX11_lay_65 rfl ⟨by grind [cLay, xFree, rs], by grind [cLay, xFree, rsM], by rw [sel, if_neg (by grind [cLay, xFree])], by rw [sel, if_neg (by grind [cLay, xFree])]⟩
      · refine x_aload_n 0 DX11_lay_20 rfl rfl ?_
        refine x_getr 3 (some 7) DX11_lay_21 (Or.inr F11_30) rfl rfl (hF.1 0 3 7 rfl) ?_
        refine x_iload_n 3 DX11_lay_24 rfl rfl ?_
        refine x_Ve (ci := 7) (av := [vI c]) (rest := []) (st' := [vN]) 0 0 DX11_lay_25 L11_191 rfl rfl rfl rfl rfl ⟨nle rfl, nle rfl, nle rfl⟩ ⟨rfl, nle rfl⟩ ⟨rfl, nle rfl⟩ (x_findRN K c ι ρ Λ hF nr hR hr0 f_c) rfl ?_
        refine x_astore (lv' := [some (vR 0), some (vI a), some (vI b), some (vI c), some (vN), some (vN), some (vN), none]) DX11_lay_28 ⟨nlt rfl, nlt rfl⟩ rfl ?_
        refine x_aload DX11_lay_30 rfl ?_
        refine x_ifnull 60 DX11_lay_32 (by decide) (fun _ => ?_) (fun _ h => by cases h)
        refine x_aload_n 0 DX11_lay_60 rfl rfl ?_
        refine x_iconst (-1) DX11_lay_61 (by decide) ?_
        refine x_Ve (ci := 11) (av := [vI (-1)]) (rest := []) (st' := [vI (-1)]) 0 0 DX11_lay_62 L11_72 rfl rfl rfl rfl rfl ⟨nle rfl, nle rfl, nle rfl⟩ ⟨rfl, nle rfl⟩ ⟨rfl, nle rfl⟩ (x_refuse K (-1) ι ρ Λ hF ⟨by decide, by decide⟩) rfl ?_
        refine x_nmι (fun ι62 e_ι62 => ?_)
        refine x_widen 3 63 (nle rfl) (nle rfl) ?_
        exact x_ireturn DX11_lay_65 rfl ⟨by grind [cLay, xFree, rs], by grind [cLay, xFree, rsM], by rw [sel, if_neg (by grind [cLay, xFree])], by rw [sel, if_neg (by grind [cLay, xFree])]⟩
theorem x_strands (K : gK) (r h : Int32) (ι : gIm) (ρ : gRm) (Λ : gLm) (hF : gFix ρ Λ) (nh : Nat) (hH : ι 4 2 = nI nh) (hn : nh ≤ 24) (hAl : ∀ i, i < nh → ρ 5 i = some (100 + i)) (nr : Nat) (hR : ι 7 1 = nI nr) (hr0 : nr ≤ 200) (hRl : ∀ r, r < nr → ρ 8 r = some (200 + r)) (hOw : ∀ r, r < nr → ρ (200 + r) 4 = some (400 + r) ∧ ρ (200 + r) 5 = some (600 + r)) (hLn : ∀ r, r < nr → Λ.2 (400 + r) = cn (ι (200 + r) 1) ∧ Λ.2 (600 + r) = cn (ι (200 + r) 1)) : gCe K 3 0 0 jX11_strands [vR 0, vI r, vI h] ι ρ Λ (some (vI (rs (cTwo r (nI nr) h (nI nh)) (xCords (ι (400 + r.toNatClampNeg)) (cn (ι (200 + r.toNatClampNeg) 1)) h)))) (rsM (cTwo r (nI nr) h (nI nh)) 1 ι ι) ρ Λ := by
  refine gC_of (by decide) (nle rfl) ?_
  by_cases f_r : 0 ≤ r ∧ r < nI nr
  · have b_r := nn_i f_r (by omega)
    refine x_aload_n 0 DX11_strands_0 rfl rfl ?_
    refine x_getr 3 (some 7) DX11_strands_1 (Or.inr F11_30) rfl rfl (hF.1 0 3 7 rfl) ?_
    refine x_iload_n 1 DX11_strands_4 rfl rfl ?_
    refine x_Ve (ci := 7) (av := [vI r]) (rest := []) (st' := [vR (200 + r.toNatClampNeg)]) 0 0 DX11_strands_5 L11_191 rfl rfl rfl rfl rfl ⟨nle rfl, nle rfl, nle rfl⟩ ⟨rfl, nle rfl⟩ ⟨rfl, nle rfl⟩ (x_findR K r ι ρ Λ hF nr hR hr0 hRl f_r) rfl ?_
    refine x_astore_n 3 (lv' := [some (vR 0), some (vI r), some (vI h), some (vR (200 + r.toNatClampNeg))]) DX11_strands_8 rfl ⟨nlt rfl, nlt rfl⟩ rfl ?_
    refine x_aload_n 3 DX11_strands_9 rfl rfl ?_
    refine x_ifnull 24 DX11_strands_10 (by decide) (fun h => by cases h) (fun _ _ => ?_)
    by_cases f_h : 0 ≤ h ∧ h < nI nh
    · have b_h := nn_i f_h (by omega)
      refine x_aload_n 0 DX11_strands_13 rfl rfl ?_
      refine x_getr 2 (some 4) DX11_strands_14 (Or.inr F11_23) rfl rfl (hF.1 0 2 4 rfl) ?_
      refine x_iload_n 2 DX11_strands_17 rfl rfl ?_
      refine x_Ve (ci := 3) (av := [vI h]) (rest := []) (st' := [vR (100 + h.toNatClampNeg)]) 0 0 DX11_strands_18 L11_139 rfl rfl rfl rfl rfl ⟨nle rfl, nle rfl, nle rfl⟩ ⟨rfl, nle rfl⟩ ⟨rfl, nle rfl⟩ (x_findH K h ι ρ Λ hF nh hH hn hAl f_h) rfl ?_
      refine x_ifnonnull 32 DX11_strands_21 (by decide) (fun _ _ => ?_) (fun h => by cases h)
      refine x_aload_n 3 DX11_strands_32 rfl rfl ?_
      refine x_iload_n 2 DX11_strands_33 rfl rfl ?_
      refine x_Ve (ci := 6) (av := [vI h]) (rest := []) (st' := [vI (xCords (ι (400 + r.toNatClampNeg)) (cn (ι (200 + r.toNatClampNeg) 1)) h)]) 0 0 DX11_strands_34 L11_205 rfl rfl (shp_rope (by omega)) rfl rfl ⟨nle rfl, nle rfl, nle rfl⟩ ⟨rfl, nle rfl⟩ ⟨rfl, nle rfl⟩ (x_cordsOf K h ι ρ Λ r.toNatClampNeg (by omega) _ (cn_le _) (hOw _ (by omega)).1 (hOw _ (by omega)).2 (hLn _ (by omega)).1 (hLn _ (by omega)).2) rfl ?_
      exact x_ireturn DX11_strands_37 rfl ⟨by grind [cTwo, rs], by grind [cTwo, rsM], rfl, rfl⟩
    · refine x_aload_n 0 DX11_strands_13 rfl rfl ?_
      refine x_getr 2 (some 4) DX11_strands_14 (Or.inr F11_23) rfl rfl (hF.1 0 2 4 rfl) ?_
      refine x_iload_n 2 DX11_strands_17 rfl rfl ?_
      refine x_Ve (ci := 3) (av := [vI h]) (rest := []) (st' := [vN]) 0 0 DX11_strands_18 L11_139 rfl rfl rfl rfl rfl ⟨nle rfl, nle rfl, nle rfl⟩ ⟨rfl, nle rfl⟩ ⟨rfl, nle rfl⟩ (x_findN K h ι ρ Λ hF nh hH hn f_h) rfl ?_
      refine x_ifnonnull 32 DX11_strands_21 (by decide) (fun _ h => by cases h) (fun _ => ?_)
      refine x_aload_n 0 DX11_strands_24 rfl rfl ?_
      refine x_iconst (-1) DX11_strands_25 (by decide) ?_
      refine x_Ve (ci := 11) (av := [vI (-1)]) (rest := []) (st' := [vI (-1)]) 0 0 DX11_strands_26 L11_72 rfl rfl rfl rfl rfl ⟨nle rfl, nle rfl, nle rfl⟩ ⟨rfl, nle rfl⟩ ⟨rfl, nle rfl⟩ (x_refuse K (-1) ι ρ Λ hF ⟨by decide, by decide⟩) rfl ?_
      refine x_nmι (fun ι26 e_ι26 => ?_)
      refine x_goto 37 DX11_strands_29 (by decide) ?_
      exact x_ireturn DX11_strands_37 rfl ⟨by grind [cTwo, rs], by grind [cTwo, rsM], rfl, rfl⟩
  · refine x_aload_n 0 DX11_strands_0 rfl rfl ?_
    refine x_getr 3 (some 7) DX11_strands_1 (Or.inr F11_30) rfl rfl (hF.1 0 3 7 rfl) ?_
    refine x_iload_n 1 DX11_strands_4 rfl rfl ?_
    refine x_Ve (ci := 7) (av := [vI r]) (rest := []) (st' := [vN]) 0 0 DX11_strands_5 L11_191 rfl rfl rfl rfl rfl ⟨nle rfl, nle rfl, nle rfl⟩ ⟨rfl, nle rfl⟩ ⟨rfl, nle rfl⟩ (x_findRN K r ι ρ Λ hF nr hR hr0 f_r) rfl ?_
    refine x_astore_n 3 (lv' := [some (vR 0), some (vI r), some (vI h), some (vN)]) DX11_strands_8 rfl ⟨nlt rfl, nlt rfl⟩ rfl ?_
    refine x_aload_n 3 DX11_strands_9 rfl rfl ?_
    refine x_ifnull 24 DX11_strands_10 (by decide) (fun _ => ?_) (fun _ h => by cases h)
    refine x_aload_n 0 DX11_strands_24 rfl rfl ?_
    refine x_iconst (-1) DX11_strands_25 (by decide) ?_
    refine x_Ve (ci := 11) (av := [vI (-1)]) (rest := []) (st' := [vI (-1)]) 0 0 DX11_strands_26 L11_72 rfl rfl rfl rfl rfl ⟨nle rfl, nle rfl, nle rfl⟩ ⟨rfl, nle rfl⟩ ⟨rfl, nle rfl⟩ (x_refuse K (-1) ι ρ Λ hF ⟨by decide, by decide⟩) rfl ?_
    refine x_nmι (fun ι26 e_ι26 => ?_)
    refine x_goto 37 DX11_strands_29 (by decide) ?_
    exact x_ireturn DX11_strands_37 rfl ⟨by grind [cTwo, rs], by grind [cTwo, rsM], rfl, rfl⟩
theorem x_ropeOf (K : gK) (r what : Int32) (ι : gIm) (ρ : gRm) (Λ : gLm) (hF : gFix ρ Λ) (nr : Nat) (hR : ι 7 1 = nI nr) (hr0 : nr ≤ 200) (hRl : ∀ r, r < nr → ρ 8 r = some (200 + r)) : gCe K 3 0 0 jX11_ropeOf [vR 0, vI r, vI what] ι ρ Λ (some (vI (rs (cRope r (nI nr) what) (vRope (ι (200 + r.toNatClampNeg) 1) (ι (200 + r.toNatClampNeg) 2) (xFree (ι (200 + r.toNatClampNeg) 6) (ι (200 + r.toNatClampNeg) 7) (ι (200 + r.toNatClampNeg) 3) (ι 2 0)) (ι (200 + r.toNatClampNeg) 8) (ι (200 + r.toNatClampNeg) 3) what)))) (rsM (cRope r (nI nr) what) 1 ι ι) ρ Λ := by
  refine gC_of (by decide) (nle rfl) ?_
  by_cases f_r : 0 ≤ r ∧ r < nI nr
  · have b_r := nn_i f_r (by omega)
    refine x_aload_n 0 DX11_ropeOf_0 rfl rfl ?_
    refine x_getr 3 (some 7) DX11_ropeOf_1 (Or.inr F11_30) rfl rfl (hF.1 0 3 7 rfl) ?_
    refine x_iload_n 1 DX11_ropeOf_4 rfl rfl ?_
    refine x_Ve (ci := 7) (av := [vI r]) (rest := []) (st' := [vR (200 + r.toNatClampNeg)]) 0 0 DX11_ropeOf_5 L11_191 rfl rfl rfl rfl rfl ⟨nle rfl, nle rfl, nle rfl⟩ ⟨rfl, nle rfl⟩ ⟨rfl, nle rfl⟩ (x_findR K r ι ρ Λ hF nr hR hr0 hRl f_r) rfl ?_
    refine x_astore_n 3 (lv' := [some (vR 0), some (vI r), some (vI what), some (vR (200 + r.toNatClampNeg))]) DX11_ropeOf_8 rfl ⟨nlt rfl, nlt rfl⟩ rfl ?_
    refine x_aload_n 3 DX11_ropeOf_9 rfl rfl ?_
    refine x_ifnonnull 19 DX11_ropeOf_10 (by decide) (fun _ _ => ?_) (fun h => by cases h)
    refine x_iload_n 2 DX11_ropeOf_19 rfl rfl ?_
    by_cases s0 : what.toInt = 0
    · have sx : what = 0 := i32_eq 0 s0 rfl
      refine x_tableIn 56 0 DX11_ropeOf_20 (by omega) (by omega) (by omega) rfl (by decide) ?_
      refine x_aload_n 3 DX11_ropeOf_56 rfl rfl ?_
      refine x_geti (v := (ι (200 + r.toNatClampNeg) 1)) 1 DX11_ropeOf_57 (Or.inr F11_193) (shp_rope (by omega)) rfl rfl ?_
      exact x_ireturn DX11_ropeOf_60 rfl ⟨by grind [cRope, rs, vRope, xFree], by grind [cRope, rsM], rfl, rfl⟩
    · skip
      by_cases s1 : what.toInt = 1
      · have sx : what = 1 := i32_eq 1 s1 rfl
        refine x_tableIn 61 1 DX11_ropeOf_20 (by omega) (by omega) (by omega) rfl (by decide) ?_
        refine x_aload_n 3 DX11_ropeOf_61 rfl rfl ?_
        refine x_geti (v := (ι (200 + r.toNatClampNeg) 2)) 2 DX11_ropeOf_62 (Or.inr F11_208) (shp_rope (by omega)) rfl rfl ?_
        exact x_ireturn DX11_ropeOf_65 rfl ⟨by grind [cRope, rs, vRope, xFree], by grind [cRope, rsM], rfl, rfl⟩
      · skip
        by_cases s2 : what.toInt = 2
        · have sx : what = 2 := i32_eq 2 s2 rfl
          refine x_tableIn 66 2 DX11_ropeOf_20 (by omega) (by omega) (by omega) rfl (by decide) ?_
          refine x_aload_n 3 DX11_ropeOf_66 rfl rfl ?_
          refine x_aload_n 0 DX11_ropeOf_67 rfl rfl ?_
          refine x_getr 1 (some 2) DX11_ropeOf_68 (Or.inr F11_16) rfl rfl (hF.1 0 1 2 rfl) ?_
          refine x_geti (v := (ι 2 0)) 0 DX11_ropeOf_71 (Or.inl F11_94) rfl rfl rfl ?_
          refine x_Ve (ci := 6) (av := [vI (ι 2 0)]) (rest := []) (st' := [vI (xFree (ι (200 + r.toNatClampNeg) 6) (ι (200 + r.toNatClampNeg) 7) (ι (200 + r.toNatClampNeg) 3) (ι 2 0))]) 0 0 DX11_ropeOf_74 L11_198 rfl rfl (shp_rope (by omega)) rfl rfl ⟨nle rfl, nle rfl, nle rfl⟩ ⟨rfl, nle rfl⟩ ⟨rfl, nle rfl⟩ (x_isFree K (ι 2 0) ι ρ Λ r.toNatClampNeg (by omega)) rfl ?_
          refine x_if_eq 84 DX11_ropeOf_77 (by decide) (fun c_77 => ?_) (fun c_77 => ?_)
          · refine x_iconst 0 DX11_ropeOf_84 (by decide) ?_
            exact x_ireturn DX11_ropeOf_85 rfl ⟨by grind [cRope, rs, vRope, xFree], by grind [cRope, rsM], rfl, rfl⟩
          · refine x_iconst 1 DX11_ropeOf_80 (by decide) ?_
            refine x_goto 85 DX11_ropeOf_81 (by decide) ?_
            exact x_ireturn DX11_ropeOf_85 rfl ⟨by grind [cRope, rs, vRope, xFree], by grind [cRope, rsM], rfl, rfl⟩
        · skip
          by_cases s3 : what.toInt = 3
          · have sx : what = 3 := i32_eq 3 s3 rfl
            refine x_tableIn 86 3 DX11_ropeOf_20 (by omega) (by omega) (by omega) rfl (by decide) ?_
            refine x_aload_n 3 DX11_ropeOf_86 rfl rfl ?_
            refine x_geti (v := (ι (200 + r.toNatClampNeg) 8)) 8 DX11_ropeOf_87 (Or.inl F11_211) (shp_rope (by omega)) rfl rfl ?_
            exact x_ireturn DX11_ropeOf_90 rfl ⟨by grind [cRope, rs, vRope, xFree], by grind [cRope, rsM], rfl, rfl⟩
          · skip
            by_cases s4 : what.toInt = 4
            · have sx : what = 4 := i32_eq 4 s4 rfl
              refine x_tableIn 91 4 DX11_ropeOf_20 (by omega) (by omega) (by omega) rfl (by decide) ?_
              refine x_aload_n 3 DX11_ropeOf_91 rfl rfl ?_
              refine x_geti (v := (ι (200 + r.toNatClampNeg) 3)) 3 DX11_ropeOf_92 (Or.inr F11_214) (shp_rope (by omega)) rfl rfl ?_
              exact x_ireturn DX11_ropeOf_95 rfl ⟨by grind [cRope, rs, vRope, xFree], by grind [cRope, rsM], rfl, rfl⟩
            · skip
              refine x_tableOut 96 DX11_ropeOf_20 (by omega) (by decide) ?_
              refine x_aload_n 0 DX11_ropeOf_96 rfl rfl ?_
              refine x_bipush (-2) DX11_ropeOf_97 (by decide) ?_
              refine x_Ve (ci := 11) (av := [vI (-2)]) (rest := []) (st' := [vI (-2)]) 0 0 DX11_ropeOf_99 L11_72 rfl rfl rfl rfl rfl ⟨nle rfl, nle rfl, nle rfl⟩ ⟨rfl, nle rfl⟩ ⟨rfl, nle rfl⟩ (x_refuse K (-2) ι ρ Λ hF ⟨by decide, by decide⟩) rfl ?_
              refine x_nmι (fun ι99 e_ι99 => ?_)
              exact x_ireturn DX11_ropeOf_102 rfl ⟨by have hr0 : cRope r (nI nr) what = -2 := by { unfold cRope; rw [if_pos (by assumption), if_neg (sw_out5 s0 s1 s2 s3 s4)] }; rw [hr0]; rfl, by have hr0 : cRope r (nI nr) what = -2 := by { unfold cRope; rw [if_pos (by assumption), if_neg (sw_out5 s0 s1 s2 s3 s4)] }; rw [hr0]; assumption, rfl, rfl⟩
  · refine x_aload_n 0 DX11_ropeOf_0 rfl rfl ?_
    refine x_getr 3 (some 7) DX11_ropeOf_1 (Or.inr F11_30) rfl rfl (hF.1 0 3 7 rfl) ?_
    refine x_iload_n 1 DX11_ropeOf_4 rfl rfl ?_
    refine x_Ve (ci := 7) (av := [vI r]) (rest := []) (st' := [vN]) 0 0 DX11_ropeOf_5 L11_191 rfl rfl rfl rfl rfl ⟨nle rfl, nle rfl, nle rfl⟩ ⟨rfl, nle rfl⟩ ⟨rfl, nle rfl⟩ (x_findRN K r ι ρ Λ hF nr hR hr0 f_r) rfl ?_
    refine x_astore_n 3 (lv' := [some (vR 0), some (vI r), some (vI what), some (vN)]) DX11_ropeOf_8 rfl ⟨nlt rfl, nlt rfl⟩ rfl ?_
    refine x_aload_n 3 DX11_ropeOf_9 rfl rfl ?_
    refine x_ifnonnull 19 DX11_ropeOf_10 (by decide) (fun _ h => by cases h) (fun _ => ?_)
    refine x_aload_n 0 DX11_ropeOf_13 rfl rfl ?_
    refine x_iconst (-1) DX11_ropeOf_14 (by decide) ?_
    refine x_Ve (ci := 11) (av := [vI (-1)]) (rest := []) (st' := [vI (-1)]) 0 0 DX11_ropeOf_15 L11_72 rfl rfl rfl rfl rfl ⟨nle rfl, nle rfl, nle rfl⟩ ⟨rfl, nle rfl⟩ ⟨rfl, nle rfl⟩ (x_refuse K (-1) ι ρ Λ hF ⟨by decide, by decide⟩) rfl ?_
    refine x_nmι (fun ι15 e_ι15 => ?_)
    exact x_ireturn DX11_ropeOf_18 rfl ⟨by grind [cRope, rs, vRope, xFree], by grind [cRope, rsM], rfl, rfl⟩
