/-! constructors, III -/
theorem x_PlannerI (K : gK)  (ι : gIm) (ρ : gRm) (Λ : gLm) (hf23 : 23 ∉ Λ.1) (hf24 : 24 ∉ Λ.1) (hf25 : 25 ∉ Λ.1) (hf26 : 26 ∉ Λ.1) (hf27 : 27 ∉ Λ.1) (hf28 : 28 ∉ Λ.1) (hf29 : 29 ∉ Λ.1) (hf30 : 30 ∉ Λ.1) : gCe K 2 8 1306 jX5_init [vR 22, vR 16] ι ρ Λ none (up2 (up2 (up2 (va_up (va_up (va_up (va_up (va_up (va_up (va_up (va_up ι 23 (fun _ => 0)) 24 (fun _ => 0)) 25 (fun _ => 0)) 26 (fun _ => 0)) 27 (fun _ => 0)) 28 (fun _ => 0)) 29 (fun _ => 0)) 30 (fun _ => 0)) 22 12 (-1)) 22 13 (-1)) 22 14 (-1)) (up2 (up2 (va_up (up2 (va_up (up2 (va_up (up2 (va_up (up2 (va_up (up2 (va_up (up2 (va_up (up2 (va_up ρ 23 (fun _ => none)) 22 1 (some 23)) 24 (fun _ => none)) 22 2 (some 24)) 25 (fun _ => none)) 22 3 (some 25)) 26 (fun _ => none)) 22 4 (some 26)) 27 (fun _ => none)) 22 5 (some 27)) 28 (fun _ => none)) 22 6 (some 28)) 29 (fun _ => none)) 22 7 (some 29)) 30 (fun _ => none)) 22 8 (some 30)) 22 0 (some 16)) (((((((((Λ.1 ++ [23]) ++ [24]) ++ [25]) ++ [26]) ++ [27]) ++ [28]) ++ [29]) ++ [30]), (va_up (va_up (va_up (va_up (va_up (va_up (va_up (va_up Λ.2 23 256) 24 256) 25 256) 26 256) 27 256) 28 8) 29 9) 30 9)) := by
  refine gC_of (by decide) (nle rfl) ?_
  refine x_aload_n 0 DX5_init_0 rfl rfl ?_
  refine x_objInit DX5_init_1 gw1_164 gw1_23 gw1_24 (nle rfl) (nle rfl) ?_
  refine x_aload_n 0 DX5_init_4 rfl rfl ?_
  refine x_sipush 256 DX5_init_5 (by decide) ?_
  refine x_newa (t := 0) 23 256 DX5_init_8 rfl (Or.inl ⟨rfl, rfl⟩) gw1_47 hf23 (by decide) rfl (nle rfl) (nle rfl) (nle rfl) (fun ι8 ρ8 Λ8 e_ι8 e_ρ8 e_Λ8 => ?_)
  refine x_widen 1 256 (nle rfl) (nle rfl) ?_
  refine x_putrF 1 DX5_init_10 F5_11 rfl rfl rfl (by first | exact Or.inl ⟨_, rfl⟩ | exact Or.inr ⟨_, rfl⟩) rfl (fun ρ10 e_ρ10 => ?_)
  refine x_aload_n 0 DX5_init_13 rfl rfl ?_
  refine x_sipush 256 DX5_init_14 (by decide) ?_
  refine x_newa (t := 0) 24 256 DX5_init_17 rfl (Or.inl ⟨rfl, rfl⟩) gw1_47 (fr_new e_Λ8 hf24 (by decide)) (by decide) rfl (nle rfl) (nle rfl) (nle rfl) (fun ι17 ρ17 Λ17 e_ι17 e_ρ17 e_Λ17 => ?_)
  refine x_widen 2 512 (nle rfl) (nle rfl) ?_
  refine x_putrF 2 DX5_init_19 F5_15 rfl rfl rfl (by first | exact Or.inl ⟨_, rfl⟩ | exact Or.inr ⟨_, rfl⟩) rfl (fun ρ19 e_ρ19 => ?_)
  refine x_aload_n 0 DX5_init_22 rfl rfl ?_
  refine x_sipush 256 DX5_init_23 (by decide) ?_
  refine x_newa (t := 0) 25 256 DX5_init_26 rfl (Or.inl ⟨rfl, rfl⟩) gw1_47 (fr_new e_Λ17 (fr_new e_Λ8 hf25 (by decide)) (by decide)) (by decide) rfl (nle rfl) (nle rfl) (nle rfl) (fun ι26 ρ26 Λ26 e_ι26 e_ρ26 e_Λ26 => ?_)
  refine x_widen 3 768 (nle rfl) (nle rfl) ?_
  refine x_putrF 3 DX5_init_28 F5_18 rfl rfl rfl (by first | exact Or.inl ⟨_, rfl⟩ | exact Or.inr ⟨_, rfl⟩) rfl (fun ρ28 e_ρ28 => ?_)
  refine x_aload_n 0 DX5_init_31 rfl rfl ?_
  refine x_sipush 256 DX5_init_32 (by decide) ?_
  refine x_newa (t := 0) 26 256 DX5_init_35 rfl (Or.inl ⟨rfl, rfl⟩) gw1_47 (fr_new e_Λ26 (fr_new e_Λ17 (fr_new e_Λ8 hf26 (by decide)) (by decide)) (by decide)) (by decide) rfl (nle rfl) (nle rfl) (nle rfl) (fun ι35 ρ35 Λ35 e_ι35 e_ρ35 e_Λ35 => ?_)
  refine x_widen 4 1024 (nle rfl) (nle rfl) ?_
  refine x_putrF 4 DX5_init_37 F5_21 rfl rfl rfl (by first | exact Or.inl ⟨_, rfl⟩ | exact Or.inr ⟨_, rfl⟩) rfl (fun ρ37 e_ρ37 => ?_)
  refine x_aload_n 0 DX5_init_40 rfl rfl ?_
  refine x_sipush 256 DX5_init_41 (by decide) ?_
  refine x_newa (t := 0) 27 256 DX5_init_44 rfl (Or.inl ⟨rfl, rfl⟩) gw1_47 (fr_new e_Λ35 (fr_new e_Λ26 (fr_new e_Λ17 (fr_new e_Λ8 hf27 (by decide)) (by decide)) (by decide)) (by decide)) (by decide) rfl (nle rfl) (nle rfl) (nle rfl) (fun ι44 ρ44 Λ44 e_ι44 e_ρ44 e_Λ44 => ?_)
  refine x_widen 5 1280 (nle rfl) (nle rfl) ?_
  refine x_putrF 5 DX5_init_46 F5_24 rfl rfl rfl (by first | exact Or.inl ⟨_, rfl⟩ | exact Or.inr ⟨_, rfl⟩) rfl (fun ρ46 e_ρ46 => ?_)
  refine x_aload_n 0 DX5_init_49 rfl rfl ?_
  refine x_bipush 8 DX5_init_50 (by decide) ?_
  refine x_newa (t := 0) 28 8 DX5_init_52 rfl (Or.inl ⟨rfl, rfl⟩) gw1_47 (fr_new e_Λ44 (fr_new e_Λ35 (fr_new e_Λ26 (fr_new e_Λ17 (fr_new e_Λ8 hf28 (by decide)) (by decide)) (by decide)) (by decide)) (by decide)) (by decide) rfl (nle rfl) (nle rfl) (nle rfl) (fun ι52 ρ52 Λ52 e_ι52 e_ρ52 e_Λ52 => ?_)
  refine x_widen 6 1288 (nle rfl) (nle rfl) ?_
  refine x_putrF 6 DX5_init_54 F5_27 rfl rfl rfl (by first | exact Or.inl ⟨_, rfl⟩ | exact Or.inr ⟨_, rfl⟩) rfl (fun ρ54 e_ρ54 => ?_)
  refine x_aload_n 0 DX5_init_57 rfl rfl ?_
  refine x_bipush 9 DX5_init_58 (by decide) ?_
  refine x_newa (t := 0) 29 9 DX5_init_60 rfl (Or.inl ⟨rfl, rfl⟩) gw1_47 (fr_new e_Λ52 (fr_new e_Λ44 (fr_new e_Λ35 (fr_new e_Λ26 (fr_new e_Λ17 (fr_new e_Λ8 hf29 (by decide)) (by decide)) (by decide)) (by decide)) (by decide)) (by decide)) (by decide) rfl (nle rfl) (nle rfl) (nle rfl) (fun ι60 ρ60 Λ60 e_ι60 e_ρ60 e_Λ60 => ?_)
  refine x_widen 7 1297 (nle rfl) (nle rfl) ?_
  refine x_putrF 7 DX5_init_62 F5_30 rfl rfl rfl (by first | exact Or.inl ⟨_, rfl⟩ | exact Or.inr ⟨_, rfl⟩) rfl (fun ρ62 e_ρ62 => ?_)
  refine x_aload_n 0 DX5_init_65 rfl rfl ?_
  refine x_bipush 9 DX5_init_66 (by decide) ?_
  refine x_newa (t := 0) 30 9 DX5_init_68 rfl (Or.inl ⟨rfl, rfl⟩) gw1_47 (fr_new e_Λ60 (fr_new e_Λ52 (fr_new e_Λ44 (fr_new e_Λ35 (fr_new e_Λ26 (fr_new e_Λ17 (fr_new e_Λ8 hf30 (by decide)) (by decide)) (by decide)) (by decide)) (by decide)) (by decide)) (by decide)) (by decide) rfl (nle rfl) (nle rfl) (nle rfl) (fun ι68 ρ68 Λ68 e_ι68 e_ρ68 e_Λ68 => ?_)
  refine x_widen 8 1306 (nle rfl) (nle rfl) ?_
  refine x_putrF 8 DX5_init_70 F5_33 rfl rfl rfl (by first | exact Or.inl ⟨_, rfl⟩ | exact Or.inr ⟨_, rfl⟩) rfl (fun ρ70 e_ρ70 => ?_)
  refine x_aload_n 0 DX5_init_73 rfl rfl ?_
  refine x_iconst (-1) DX5_init_74 (by decide) ?_
  refine x_puti 12 DX5_init_75 F5_36 rfl (Or.inl rfl) rfl (fun ι75 e_ι75 => ?_)
  refine x_aload_n 0 DX5_init_78 rfl rfl ?_
  refine x_iconst (-1) DX5_init_79 (by decide) ?_
  refine x_puti 13 DX5_init_80 F5_40 rfl (Or.inl rfl) rfl (fun ι80 e_ι80 => ?_)
  refine x_aload_n 0 DX5_init_83 rfl rfl ?_
  refine x_iconst (-1) DX5_init_84 (by decide) ?_
  refine x_puti 14 DX5_init_85 F5_43 rfl (Or.inl rfl) rfl (fun ι85 e_ι85 => ?_)
  refine x_aload_n 0 DX5_init_88 rfl rfl ?_
  refine x_aload_n 1 DX5_init_89 rfl rfl ?_
  refine x_putrF 0 DX5_init_90 F5_46 rfl rfl rfl (by first | exact Or.inl ⟨_, rfl⟩ | exact Or.inr ⟨_, rfl⟩) rfl (fun ρ90 e_ρ90 => ?_)
  exact x_return DX5_init_93 rfl ⟨rfl, by subst_vars; rfl, by subst_vars; rfl, by subst_vars; rfl⟩
