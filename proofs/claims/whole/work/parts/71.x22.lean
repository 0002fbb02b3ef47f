/-! constructors, I -/
theorem x_forget0 (K : gK)  (ι : gIm) (ρ : gRm) (Λ : gLm) (h1 : ρ 2 2 = some 3) (h2 : Λ.2 3 = 52) : gCe K 1 0 0 jX8_forgetRain [vR 2] ι ρ Λ none (xTurn1 ι 52) ρ Λ := by
  refine gC_of (by decide) (nle rfl) ?_
  refine x_iconst 0 DX8_forgetRain_0 (by decide) ?_
  refine x_istore_n 1 (lv' := [some (vR 2), some (vI 0)]) DX8_forgetRain_1 rfl ⟨nlt rfl, nlt rfl⟩ rfl ?_
  refine x_lv (lv' := [some (vR 2), some (vI (nI 0))]) (lvS (lvI nI_0.symm rfl)) ?_
  refine lpn (W := fun i => ∀ z, z = xTurn1 ι i → gX K none 1 0 0 jX8_forgetRain 2 [some (vR 2), some (vI (nI i))] [] 0 0 z ρ Λ _) 52 (fun i hi ihi z hz => ?_) 0 (by omega) ?_ _ (by rw [xTurn1, fil_0, va_up_id])
  · refine x_iload_n 1 DX8_forgetRain_2 rfl rfl ?_
    refine x_bipush 52 DX8_forgetRain_3 (by decide) ?_
    refine x_icmp_ge 21 DX8_forgetRain_5 (by decide) (fun c_5 => False.elim (by rw [show (52 : Int32) = nI 52 from rfl, nI_le1 (by omega) (by omega)] at c_5; omega)) (fun c_5 => ?_)
    refine x_aload_n 0 DX8_forgetRain_8 rfl rfl ?_
    refine x_getr 2 (some 3) DX8_forgetRain_9 (Or.inr F8_9) rfl rfl h1 ?_
    refine x_iload_n 1 DX8_forgetRain_12 rfl rfl ?_
    refine x_iconst (-1) DX8_forgetRain_13 (by decide) ?_
    refine x_iast i (nI_cl1 (by omega)) DX8_forgetRain_14 rfl (by rw [h2]; exact gIn_nI (by omega) (by omega)) (fun ι14 e_ι14 => ?_)
    refine x_iinc ((nI i) + 1) (lv' := [some (vR 2), some (vI ((nI i) + 1))]) DX8_forgetRain_15 rfl rfl (nlt rfl) rfl ?_
    refine x_goto 2 DX8_forgetRain_18 (by decide) ?_
    refine x_lv (lv' := [some (vR 2), some (vI (nI (i + 1)))]) (lvS (lvI (nI_1 i) rfl)) ?_
    exact ihi _ (by rw [e_ι14, hz]; exact up2_fil ι 3 i (fun _ => -1) (ι 3))
  · intro z hz
    refine x_iload_n 1 DX8_forgetRain_2 rfl rfl ?_
    refine x_bipush 52 DX8_forgetRain_3 (by decide) ?_
    refine x_icmp_ge 21 DX8_forgetRain_5 (by decide) (fun c_5 => ?_) (fun c_5 => False.elim (c_5 (by rw [show (52 : Int32) = nI 52 from rfl]; exact nI_le (by omega) (by omega))))
    exact x_return DX8_forgetRain_21 rfl ⟨rfl, hz, rfl, rfl⟩
theorem x_SeasonI (K : gK)  (ι : gIm) (ρ : gRm) (Λ : gLm) (hf : 3 ∉ Λ.1) : gCe K 2 1 52 jX8_init [vR 2] ι ρ Λ none (xTurn1 (va_up ι 3 (fun _ => 0)) 52) (up2 (va_up ρ 3 (fun _ => none)) 2 2 (some 3)) (Λ.1 ++ [3], va_up Λ.2 3 52) := by
  refine gC_of (by decide) (nle rfl) ?_
  refine x_aload_n 0 DX8_init_0 rfl rfl ?_
  refine x_objInit DX8_init_1 gw1_30 gw1_23 gw1_24 (nle rfl) (nle rfl) ?_
  refine x_aload_n 0 DX8_init_4 rfl rfl ?_
  refine x_bipush 52 DX8_init_5 (by decide) ?_
  refine x_newa (t := 0) 3 52 DX8_init_7 rfl (Or.inl ⟨rfl, rfl⟩) gw1_47 hf (by decide) rfl (nle rfl) (nle rfl) (nle rfl) (fun ι7 ρ7 Λ7 e_ι7 e_ρ7 e_Λ7 => ?_)
  refine x_widen 1 52 (nle rfl) (nle rfl) ?_
  refine x_putrF 2 DX8_init_9 F8_9 rfl rfl rfl (by first | exact Or.inl ⟨_, rfl⟩ | exact Or.inr ⟨_, rfl⟩) rfl (fun ρ9 e_ρ9 => ?_)
  refine x_aload_n 0 DX8_init_12 rfl rfl ?_
  refine x_Ve (ci := 8) (av := []) (rest := []) (st' := []) 1 52 DX8_init_13 L8_15 rfl rfl rfl rfl rfl ⟨nle rfl, nle rfl, nle rfl⟩ ⟨rfl, nle rfl⟩ ⟨rfl, nle rfl⟩ (x_forget0 K ι7 ρ9 Λ7 (by subst_vars; rfl) (by subst_vars; rfl)) rfl ?_
  refine x_nmι (fun ι13 e_ι13 => ?_)
  exact x_return DX8_init_16 rfl ⟨rfl, by subst_vars; rfl, by subst_vars; rfl, by subst_vars; rfl⟩
