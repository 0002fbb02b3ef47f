/-! constructors, II -/
theorem x_HousesI (K : gK)  (ι : gIm) (ρ : gRm) (Λ : gLm) (hf5 : 5 ∉ Λ.1) (hf6 : 6 ∉ Λ.1) : gCe K 2 2 48 jX3_init [vR 4] ι ρ Λ none (va_up (va_up ι 5 (fun _ => 0)) 6 (fun _ => 0)) (up2 (va_up (up2 (va_up ρ 5 (fun _ => none)) 4 0 (some 5)) 6 (fun _ => none)) 4 1 (some 6)) (((Λ.1 ++ [5]) ++ [6]), (va_up (va_up Λ.2 5 24) 6 24)) := by
  refine gC_of (by decide) (nle rfl) ?_
  refine x_aload_n 0 DX3_init_0 rfl rfl ?_
  refine x_objInit DX3_init_1 gw1_53 gw1_23 gw1_24 (nle rfl) (nle rfl) ?_
  refine x_aload_n 0 DX3_init_4 rfl rfl ?_
  refine x_bipush 24 DX3_init_5 (by decide) ?_
  refine x_newq (t := 3) 5 24 "GrassBridge$House" DX3_init_7 rfl ⟨by decide, by decide⟩ rfl (by decide) gw1_54 hf5 (by decide) rfl (nle rfl) (nle rfl) (nle rfl) (fun ι7 ρ7 Λ7 e_ι7 e_ρ7 e_Λ7 => ?_)
  refine x_widen 1 24 (nle rfl) (nle rfl) ?_
  refine x_putrF 0 DX3_init_10 F3_11 rfl rfl rfl (by first | exact Or.inl ⟨_, rfl⟩ | exact Or.inr ⟨_, rfl⟩) rfl (fun ρ10 e_ρ10 => ?_)
  refine x_aload_n 0 DX3_init_13 rfl rfl ?_
  refine x_bipush 24 DX3_init_14 (by decide) ?_
  refine x_newa (t := 0) 6 24 DX3_init_16 rfl (Or.inl ⟨rfl, rfl⟩) gw1_47 (fr_new e_Λ7 hf6 (by decide)) (by decide) rfl (nle rfl) (nle rfl) (nle rfl) (fun ι16 ρ16 Λ16 e_ι16 e_ρ16 e_Λ16 => ?_)
  refine x_widen 2 48 (nle rfl) (nle rfl) ?_
  refine x_putrF 1 DX3_init_18 F3_17 rfl rfl rfl (by first | exact Or.inl ⟨_, rfl⟩ | exact Or.inr ⟨_, rfl⟩) rfl (fun ρ18 e_ρ18 => ?_)
  exact x_return DX3_init_21 rfl ⟨rfl, by subst_vars; rfl, by subst_vars; rfl, by subst_vars; rfl⟩
theorem x_RopeYardI (K : gK)  (ι : gIm) (ρ : gRm) (Λ : gLm) (hf8 : 8 ∉ Λ.1) : gCe K 2 1 200 jX7_init [vR 7] ι ρ Λ none (va_up ι 8 (fun _ => 0)) (up2 (va_up ρ 8 (fun _ => none)) 7 0 (some 8)) ((Λ.1 ++ [8]), (va_up Λ.2 8 200)) := by
  refine gC_of (by decide) (nle rfl) ?_
  refine x_aload_n 0 DX7_init_0 rfl rfl ?_
  refine x_objInit DX7_init_1 gw1_76 gw1_23 gw1_24 (nle rfl) (nle rfl) ?_
  refine x_aload_n 0 DX7_init_4 rfl rfl ?_
  refine x_sipush 200 DX7_init_5 (by decide) ?_
  refine x_newq (t := 4) 8 200 "GrassBridge$Rope" DX7_init_8 rfl ⟨by decide, by decide⟩ rfl (by decide) gw1_77 hf8 (by decide) rfl (nle rfl) (nle rfl) (nle rfl) (fun ι8 ρ8 Λ8 e_ι8 e_ρ8 e_Λ8 => ?_)
  refine x_widen 1 200 (nle rfl) (nle rfl) ?_
  refine x_putrF 0 DX7_init_11 F7_11 rfl rfl rfl (by first | exact Or.inl ⟨_, rfl⟩ | exact Or.inr ⟨_, rfl⟩) rfl (fun ρ11 e_ρ11 => ?_)
  exact x_return DX7_init_14 rfl ⟨rfl, by subst_vars; rfl, by subst_vars; rfl, by subst_vars; rfl⟩
theorem x_SpanI (K : gK)  (ι : gIm) (ρ : gRm) (Λ : gLm) (hf10 : 10 ∉ Λ.1) (hf11 : 11 ∉ Λ.1) (hf12 : 12 ∉ Λ.1) (hf13 : 13 ∉ Λ.1) : gCe K 2 4 24 jX9_init [vR 9] ι ρ Λ none (va_up (va_up (va_up (va_up ι 10 (fun _ => 0)) 11 (fun _ => 0)) 12 (fun _ => 0)) 13 (fun _ => 0)) (up2 (va_up (up2 (va_up (up2 (va_up (up2 (va_up ρ 10 (fun _ => none)) 9 0 (some 10)) 11 (fun _ => none)) 9 1 (some 11)) 12 (fun _ => none)) 9 2 (some 12)) 13 (fun _ => none)) 9 3 (some 13)) (((((Λ.1 ++ [10]) ++ [11]) ++ [12]) ++ [13]), (va_up (va_up (va_up (va_up Λ.2 10 6) 11 6) 12 6) 13 6)) := by
  refine gC_of (by decide) (nle rfl) ?_
  refine x_aload_n 0 DX9_init_0 rfl rfl ?_
  refine x_objInit DX9_init_1 gw1_92 gw1_23 gw1_24 (nle rfl) (nle rfl) ?_
  refine x_aload_n 0 DX9_init_4 rfl rfl ?_
  refine x_bipush 6 DX9_init_5 (by decide) ?_
  refine x_newq (t := 4) 10 6 "GrassBridge$Rope" DX9_init_7 rfl ⟨by decide, by decide⟩ rfl (by decide) gw1_93 hf10 (by decide) rfl (nle rfl) (nle rfl) (nle rfl) (fun ι7 ρ7 Λ7 e_ι7 e_ρ7 e_Λ7 => ?_)
  refine x_widen 1 6 (nle rfl) (nle rfl) ?_
  refine x_putrF 0 DX9_init_10 F9_11 rfl rfl rfl (by first | exact Or.inl ⟨_, rfl⟩ | exact Or.inr ⟨_, rfl⟩) rfl (fun ρ10 e_ρ10 => ?_)
  refine x_aload_n 0 DX9_init_13 rfl rfl ?_
  refine x_bipush 6 DX9_init_14 (by decide) ?_
  refine x_newa (t := 0) 11 6 DX9_init_16 rfl (Or.inl ⟨rfl, rfl⟩) gw1_47 (fr_new e_Λ7 hf11 (by decide)) (by decide) rfl (nle rfl) (nle rfl) (nle rfl) (fun ι16 ρ16 Λ16 e_ι16 e_ρ16 e_Λ16 => ?_)
  refine x_widen 2 12 (nle rfl) (nle rfl) ?_
  refine x_putrF 1 DX9_init_18 F9_17 rfl rfl rfl (by first | exact Or.inl ⟨_, rfl⟩ | exact Or.inr ⟨_, rfl⟩) rfl (fun ρ18 e_ρ18 => ?_)
  refine x_aload_n 0 DX9_init_21 rfl rfl ?_
  refine x_bipush 6 DX9_init_22 (by decide) ?_
  refine x_newa (t := 0) 12 6 DX9_init_24 rfl (Or.inl ⟨rfl, rfl⟩) gw1_47 (fr_new e_Λ16 (fr_new e_Λ7 hf12 (by decide)) (by decide)) (by decide) rfl (nle rfl) (nle rfl) (nle rfl) (fun ι24 ρ24 Λ24 e_ι24 e_ρ24 e_Λ24 => ?_)
  refine x_widen 3 18 (nle rfl) (nle rfl) ?_
  refine x_putrF 2 DX9_init_26 F9_21 rfl rfl rfl (by first | exact Or.inl ⟨_, rfl⟩ | exact Or.inr ⟨_, rfl⟩) rfl (fun ρ26 e_ρ26 => ?_)
  refine x_aload_n 0 DX9_init_29 rfl rfl ?_
  refine x_bipush 6 DX9_init_30 (by decide) ?_
  refine x_newa (t := 0) 13 6 DX9_init_32 rfl (Or.inl ⟨rfl, rfl⟩) gw1_47 (fr_new e_Λ24 (fr_new e_Λ16 (fr_new e_Λ7 hf13 (by decide)) (by decide)) (by decide)) (by decide) rfl (nle rfl) (nle rfl) (nle rfl) (fun ι32 ρ32 Λ32 e_ι32 e_ρ32 e_Λ32 => ?_)
  refine x_widen 4 24 (nle rfl) (nle rfl) ?_
  refine x_putrF 3 DX9_init_34 F9_24 rfl rfl rfl (by first | exact Or.inl ⟨_, rfl⟩ | exact Or.inr ⟨_, rfl⟩) rfl (fun ρ34 e_ρ34 => ?_)
  exact x_return DX9_init_37 rfl ⟨rfl, by subst_vars; rfl, by subst_vars; rfl, by subst_vars; rfl⟩
theorem x_BreaksI (K : gK)  (ι : gIm) (ρ : gRm) (Λ : gLm) (hf15 : 15 ∉ Λ.1) : gCe K 2 1 40 jX1_init [vR 14] ι ρ Λ none (va_up ι 15 (fun _ => 0)) (up2 (va_up ρ 15 (fun _ => none)) 14 0 (some 15)) ((Λ.1 ++ [15]), (va_up Λ.2 15 40)) := by
  refine gC_of (by decide) (nle rfl) ?_
  refine x_aload_n 0 DX1_init_0 rfl rfl ?_
  refine x_objInit DX1_init_1 gw1_112 gw1_23 gw1_24 (nle rfl) (nle rfl) ?_
  refine x_aload_n 0 DX1_init_4 rfl rfl ?_
  refine x_bipush 40 DX1_init_5 (by decide) ?_
  refine x_newq (t := 2) 15 40 "GrassBridge$Break" DX1_init_7 rfl ⟨by decide, by decide⟩ rfl (by decide) gw1_113 hf15 (by decide) rfl (nle rfl) (nle rfl) (nle rfl) (fun ι7 ρ7 Λ7 e_ι7 e_ρ7 e_Λ7 => ?_)
  refine x_widen 1 40 (nle rfl) (nle rfl) ?_
  refine x_putrF 0 DX1_init_10 F1_11 rfl rfl rfl (by first | exact Or.inl ⟨_, rfl⟩ | exact Or.inr ⟨_, rfl⟩) rfl (fun ρ10 e_ρ10 => ?_)
  exact x_return DX1_init_13 rfl ⟨rfl, by subst_vars; rfl, by subst_vars; rfl, by subst_vars; rfl⟩
theorem x_WorkI (K : gK)  (ι : gIm) (ρ : gRm) (Λ : gLm) (hf17 : 17 ∉ Λ.1) (hf18 : 18 ∉ Λ.1) (hf19 : 19 ∉ Λ.1) (hf20 : 20 ∉ Λ.1) (hf21 : 21 ∉ Λ.1) : gCe K 2 5 60 jX10_init [vR 16] ι ρ Λ none (va_up (va_up (va_up (va_up (va_up ι 17 (fun _ => 0)) 18 (fun _ => 0)) 19 (fun _ => 0)) 20 (fun _ => 0)) 21 (fun _ => 0)) (up2 (va_up (up2 (va_up (up2 (va_up (up2 (va_up (up2 (va_up ρ 17 (fun _ => none)) 16 0 (some 17)) 18 (fun _ => none)) 16 1 (some 18)) 19 (fun _ => none)) 16 2 (some 19)) 20 (fun _ => none)) 16 3 (some 20)) 21 (fun _ => none)) 16 4 (some 21)) ((((((Λ.1 ++ [17]) ++ [18]) ++ [19]) ++ [20]) ++ [21]), (va_up (va_up (va_up (va_up (va_up Λ.2 17 12) 18 12) 19 12) 20 12) 21 12)) := by
  refine gC_of (by decide) (nle rfl) ?_
  refine x_aload_n 0 DX10_init_0 rfl rfl ?_
  refine x_objInit DX10_init_1 gw1_128 gw1_23 gw1_24 (nle rfl) (nle rfl) ?_
  refine x_aload_n 0 DX10_init_4 rfl rfl ?_
  refine x_bipush 12 DX10_init_5 (by decide) ?_
  refine x_newa (t := 0) 17 12 DX10_init_7 rfl (Or.inl ⟨rfl, rfl⟩) gw1_47 hf17 (by decide) rfl (nle rfl) (nle rfl) (nle rfl) (fun ι7 ρ7 Λ7 e_ι7 e_ρ7 e_Λ7 => ?_)
  refine x_widen 1 12 (nle rfl) (nle rfl) ?_
  refine x_putrF 0 DX10_init_9 F10_9 rfl rfl rfl (by first | exact Or.inl ⟨_, rfl⟩ | exact Or.inr ⟨_, rfl⟩) rfl (fun ρ9 e_ρ9 => ?_)
  refine x_aload_n 0 DX10_init_12 rfl rfl ?_
  refine x_bipush 12 DX10_init_13 (by decide) ?_
  refine x_newa (t := 0) 18 12 DX10_init_15 rfl (Or.inl ⟨rfl, rfl⟩) gw1_47 (fr_new e_Λ7 hf18 (by decide)) (by decide) rfl (nle rfl) (nle rfl) (nle rfl) (fun ι15 ρ15 Λ15 e_ι15 e_ρ15 e_Λ15 => ?_)
  refine x_widen 2 24 (nle rfl) (nle rfl) ?_
  refine x_putrF 1 DX10_init_17 F10_15 rfl rfl rfl (by first | exact Or.inl ⟨_, rfl⟩ | exact Or.inr ⟨_, rfl⟩) rfl (fun ρ17 e_ρ17 => ?_)
  refine x_aload_n 0 DX10_init_20 rfl rfl ?_
  refine x_bipush 12 DX10_init_21 (by decide) ?_
  refine x_newa (t := 0) 19 12 DX10_init_23 rfl (Or.inl ⟨rfl, rfl⟩) gw1_47 (fr_new e_Λ15 (fr_new e_Λ7 hf19 (by decide)) (by decide)) (by decide) rfl (nle rfl) (nle rfl) (nle rfl) (fun ι23 ρ23 Λ23 e_ι23 e_ρ23 e_Λ23 => ?_)
  refine x_widen 3 36 (nle rfl) (nle rfl) ?_
  refine x_putrF 2 DX10_init_25 F10_18 rfl rfl rfl (by first | exact Or.inl ⟨_, rfl⟩ | exact Or.inr ⟨_, rfl⟩) rfl (fun ρ25 e_ρ25 => ?_)
  refine x_aload_n 0 DX10_init_28 rfl rfl ?_
  refine x_bipush 12 DX10_init_29 (by decide) ?_
  refine x_newa (t := 0) 20 12 DX10_init_31 rfl (Or.inl ⟨rfl, rfl⟩) gw1_47 (fr_new e_Λ23 (fr_new e_Λ15 (fr_new e_Λ7 hf20 (by decide)) (by decide)) (by decide)) (by decide) rfl (nle rfl) (nle rfl) (nle rfl) (fun ι31 ρ31 Λ31 e_ι31 e_ρ31 e_Λ31 => ?_)
  refine x_widen 4 48 (nle rfl) (nle rfl) ?_
  refine x_putrF 3 DX10_init_33 F10_21 rfl rfl rfl (by first | exact Or.inl ⟨_, rfl⟩ | exact Or.inr ⟨_, rfl⟩) rfl (fun ρ33 e_ρ33 => ?_)
  refine x_aload_n 0 DX10_init_36 rfl rfl ?_
  refine x_bipush 12 DX10_init_37 (by decide) ?_
  refine x_newa (t := 0) 21 12 DX10_init_39 rfl (Or.inl ⟨rfl, rfl⟩) gw1_47 (fr_new e_Λ31 (fr_new e_Λ23 (fr_new e_Λ15 (fr_new e_Λ7 hf21 (by decide)) (by decide)) (by decide)) (by decide)) (by decide) rfl (nle rfl) (nle rfl) (nle rfl) (fun ι39 ρ39 Λ39 e_ι39 e_ρ39 e_Λ39 => ?_)
  refine x_widen 5 60 (nle rfl) (nle rfl) ?_
  refine x_putrF 4 DX10_init_41 F10_24 rfl rfl rfl (by first | exact Or.inl ⟨_, rfl⟩ | exact Or.inr ⟨_, rfl⟩) rfl (fun ρ41 e_ρ41 => ?_)
  exact x_return DX10_init_44 rfl ⟨rfl, by subst_vars; rfl, by subst_vars; rfl, by subst_vars; rfl⟩
theorem x_PeopleI (K : gK)  (ι : gIm) (ρ : gRm) (Λ : gLm) (hf32 : 32 ∉ Λ.1) (hf33 : 33 ∉ Λ.1) (hf34 : 34 ∉ Λ.1) (hf35 : 35 ∉ Λ.1) : gCe K 2 4 120 jX4_init [vR 31] ι ρ Λ none (va_up (va_up (va_up (va_up ι 32 (fun _ => 0)) 33 (fun _ => 0)) 34 (fun _ => 0)) 35 (fun _ => 0)) (up2 (va_up (up2 (va_up (up2 (va_up (up2 (va_up ρ 32 (fun _ => none)) 31 0 (some 32)) 33 (fun _ => none)) 31 1 (some 33)) 34 (fun _ => none)) 31 2 (some 34)) 35 (fun _ => none)) 31 3 (some 35)) (((((Λ.1 ++ [32]) ++ [33]) ++ [34]) ++ [35]), (va_up (va_up (va_up (va_up Λ.2 32 30) 33 30) 34 30) 35 30)) := by
  refine gC_of (by decide) (nle rfl) ?_
  refine x_aload_n 0 DX4_init_0 rfl rfl ?_
  refine x_objInit DX4_init_1 gw1_216 gw1_23 gw1_24 (nle rfl) (nle rfl) ?_
  refine x_aload_n 0 DX4_init_4 rfl rfl ?_
  refine x_bipush 30 DX4_init_5 (by decide) ?_
  refine x_newa (t := 0) 32 30 DX4_init_7 rfl (Or.inl ⟨rfl, rfl⟩) gw1_47 hf32 (by decide) rfl (nle rfl) (nle rfl) (nle rfl) (fun ι7 ρ7 Λ7 e_ι7 e_ρ7 e_Λ7 => ?_)
  refine x_widen 1 30 (nle rfl) (nle rfl) ?_
  refine x_putrF 0 DX4_init_9 F4_9 rfl rfl rfl (by first | exact Or.inl ⟨_, rfl⟩ | exact Or.inr ⟨_, rfl⟩) rfl (fun ρ9 e_ρ9 => ?_)
  refine x_aload_n 0 DX4_init_12 rfl rfl ?_
  refine x_bipush 30 DX4_init_13 (by decide) ?_
  refine x_newa (t := 0) 33 30 DX4_init_15 rfl (Or.inl ⟨rfl, rfl⟩) gw1_47 (fr_new e_Λ7 hf33 (by decide)) (by decide) rfl (nle rfl) (nle rfl) (nle rfl) (fun ι15 ρ15 Λ15 e_ι15 e_ρ15 e_Λ15 => ?_)
  refine x_widen 2 60 (nle rfl) (nle rfl) ?_
  refine x_putrF 1 DX4_init_17 F4_15 rfl rfl rfl (by first | exact Or.inl ⟨_, rfl⟩ | exact Or.inr ⟨_, rfl⟩) rfl (fun ρ17 e_ρ17 => ?_)
  refine x_aload_n 0 DX4_init_20 rfl rfl ?_
  refine x_bipush 30 DX4_init_21 (by decide) ?_
  refine x_newa (t := 1) 34 30 DX4_init_23 rfl (Or.inr ⟨rfl, rfl⟩) gw1_234 (fr_new e_Λ15 (fr_new e_Λ7 hf34 (by decide)) (by decide)) (by decide) rfl (nle rfl) (nle rfl) (nle rfl) (fun ι23 ρ23 Λ23 e_ι23 e_ρ23 e_Λ23 => ?_)
  refine x_widen 3 90 (nle rfl) (nle rfl) ?_
  refine x_putrF 2 DX4_init_25 F4_18 rfl rfl rfl (by first | exact Or.inl ⟨_, rfl⟩ | exact Or.inr ⟨_, rfl⟩) rfl (fun ρ25 e_ρ25 => ?_)
  refine x_aload_n 0 DX4_init_28 rfl rfl ?_
  refine x_bipush 30 DX4_init_29 (by decide) ?_
  refine x_newa (t := 0) 35 30 DX4_init_31 rfl (Or.inl ⟨rfl, rfl⟩) gw1_47 (fr_new e_Λ23 (fr_new e_Λ15 (fr_new e_Λ7 hf35 (by decide)) (by decide)) (by decide)) (by decide) rfl (nle rfl) (nle rfl) (nle rfl) (fun ι31 ρ31 Λ31 e_ι31 e_ρ31 e_Λ31 => ?_)
  refine x_widen 4 120 (nle rfl) (nle rfl) ?_
  refine x_putrF 3 DX4_init_33 F4_22 rfl rfl rfl (by first | exact Or.inl ⟨_, rfl⟩ | exact Or.inr ⟨_, rfl⟩) rfl (fun ρ33 e_ρ33 => ?_)
  exact x_return DX4_init_36 rfl ⟨rfl, by subst_vars; rfl, by subst_vars; rfl, by subst_vars; rfl⟩
