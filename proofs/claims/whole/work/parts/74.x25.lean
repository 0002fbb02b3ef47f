/-! constructors, IV: the class -/
def xIniI (ι : gIm) : gIm := (va_up (va_up (va_up (va_up (va_up (up2 (up2 (up2 (va_up (va_up (va_up (va_up (va_up (va_up (va_up (va_up (va_up (va_up (va_up (va_up (va_up (va_up (va_up (va_up (va_up (va_up (va_up (va_up (va_up (va_up (va_up (va_up (va_up (va_up (va_up (xTurn1 (va_up (va_up (va_up ι 1 (fun _ => 0)) 2 (fun _ => 0)) 3 (fun _ => 0)) 52) 4 (fun _ => 0)) 5 (fun _ => 0)) 6 (fun _ => 0)) 7 (fun _ => 0)) 8 (fun _ => 0)) 9 (fun _ => 0)) 10 (fun _ => 0)) 11 (fun _ => 0)) 12 (fun _ => 0)) 13 (fun _ => 0)) 14 (fun _ => 0)) 15 (fun _ => 0)) 16 (fun _ => 0)) 17 (fun _ => 0)) 18 (fun _ => 0)) 19 (fun _ => 0)) 20 (fun _ => 0)) 21 (fun _ => 0)) 22 (fun _ => 0)) 23 (fun _ => 0)) 24 (fun _ => 0)) 25 (fun _ => 0)) 26 (fun _ => 0)) 27 (fun _ => 0)) 28 (fun _ => 0)) 29 (fun _ => 0)) 30 (fun _ => 0)) 22 12 (-1)) 22 13 (-1)) 22 14 (-1)) 31 (fun _ => 0)) 32 (fun _ => 0)) 33 (fun _ => 0)) 34 (fun _ => 0)) 35 (fun _ => 0))
def xIniR (ρ : gRm) : gRm := (up2 (up2 (va_up (up2 (va_up (up2 (va_up (up2 (va_up (va_up (up2 (up2 (up2 (va_up (up2 (va_up (up2 (va_up (up2 (va_up (up2 (va_up (up2 (va_up (up2 (va_up (up2 (va_up (va_up (up2 (up2 (va_up (up2 (va_up (up2 (va_up (up2 (va_up (up2 (va_up (va_up (up2 (up2 (va_up (va_up (up2 (up2 (va_up (up2 (va_up (up2 (va_up (up2 (va_up (va_up (up2 (up2 (va_up (va_up (up2 (up2 (va_up (up2 (va_up (va_up (up2 (up2 (va_up (va_up (up2 (va_up ρ 1 (fun _ => none)) 0 0 (some 1)) 2 (fun _ => none)) 3 (fun _ => none)) 2 2 (some 3)) 0 1 (some 2)) 4 (fun _ => none)) 5 (fun _ => none)) 4 0 (some 5)) 6 (fun _ => none)) 4 1 (some 6)) 0 2 (some 4)) 7 (fun _ => none)) 8 (fun _ => none)) 7 0 (some 8)) 0 3 (some 7)) 9 (fun _ => none)) 10 (fun _ => none)) 9 0 (some 10)) 11 (fun _ => none)) 9 1 (some 11)) 12 (fun _ => none)) 9 2 (some 12)) 13 (fun _ => none)) 9 3 (some 13)) 0 4 (some 9)) 14 (fun _ => none)) 15 (fun _ => none)) 14 0 (some 15)) 0 5 (some 14)) 16 (fun _ => none)) 17 (fun _ => none)) 16 0 (some 17)) 18 (fun _ => none)) 16 1 (some 18)) 19 (fun _ => none)) 16 2 (some 19)) 20 (fun _ => none)) 16 3 (some 20)) 21 (fun _ => none)) 16 4 (some 21)) 0 6 (some 16)) 22 (fun _ => none)) 23 (fun _ => none)) 22 1 (some 23)) 24 (fun _ => none)) 22 2 (some 24)) 25 (fun _ => none)) 22 3 (some 25)) 26 (fun _ => none)) 22 4 (some 26)) 27 (fun _ => none)) 22 5 (some 27)) 28 (fun _ => none)) 22 6 (some 28)) 29 (fun _ => none)) 22 7 (some 29)) 30 (fun _ => none)) 22 8 (some 30)) 22 0 (some 16)) 0 7 (some 22)) 31 (fun _ => none)) 32 (fun _ => none)) 31 0 (some 32)) 33 (fun _ => none)) 31 1 (some 33)) 34 (fun _ => none)) 31 2 (some 34)) 35 (fun _ => none)) 31 3 (some 35)) 0 8 (some 31))
def xIniL (Λ : gLm) : gLm := ((((((((((((((((((((((((((((((((((((Λ.1 ++ [1]) ++ [2]) ++ [3]) ++ [4]) ++ [5]) ++ [6]) ++ [7]) ++ [8]) ++ [9]) ++ [10]) ++ [11]) ++ [12]) ++ [13]) ++ [14]) ++ [15]) ++ [16]) ++ [17]) ++ [18]) ++ [19]) ++ [20]) ++ [21]) ++ [22]) ++ [23]) ++ [24]) ++ [25]) ++ [26]) ++ [27]) ++ [28]) ++ [29]) ++ [30]) ++ [31]) ++ [32]) ++ [33]) ++ [34]) ++ [35]), (va_up (va_up (va_up (va_up (va_up (va_up (va_up (va_up (va_up (va_up (va_up (va_up (va_up (va_up (va_up (va_up (va_up (va_up (va_up (va_up (va_up (va_up (va_up (va_up (va_up (va_up (va_up (va_up (va_up (va_up (va_up (va_up (va_up (va_up (va_up Λ.2 1 7) 2 0) 3 52) 4 0) 5 24) 6 24) 7 0) 8 200) 9 0) 10 6) 11 6) 12 6) 13 6) 14 0) 15 40) 16 0) 17 12) 18 12) 19 12) 20 12) 21 12) 22 0) 23 256) 24 256) 25 256) 26 256) 27 256) 28 8) 29 9) 30 9) 31 0) 32 30) 33 30) 34 30) 35 30))
theorem x_init (K : gK)  (ι : gIm) (ρ : gRm) (Λ : gLm) (hf1 : 1 ∉ Λ.1) (hf2 : 2 ∉ Λ.1) (hf3 : 3 ∉ Λ.1) (hf4 : 4 ∉ Λ.1) (hf5 : 5 ∉ Λ.1) (hf6 : 6 ∉ Λ.1) (hf7 : 7 ∉ Λ.1) (hf8 : 8 ∉ Λ.1) (hf9 : 9 ∉ Λ.1) (hf10 : 10 ∉ Λ.1) (hf11 : 11 ∉ Λ.1) (hf12 : 12 ∉ Λ.1) (hf13 : 13 ∉ Λ.1) (hf14 : 14 ∉ Λ.1) (hf15 : 15 ∉ Λ.1) (hf16 : 16 ∉ Λ.1) (hf17 : 17 ∉ Λ.1) (hf18 : 18 ∉ Λ.1) (hf19 : 19 ∉ Λ.1) (hf20 : 20 ∉ Λ.1) (hf21 : 21 ∉ Λ.1) (hf22 : 22 ∉ Λ.1) (hf23 : 23 ∉ Λ.1) (hf24 : 24 ∉ Λ.1) (hf25 : 25 ∉ Λ.1) (hf26 : 26 ∉ Λ.1) (hf27 : 27 ∉ Λ.1) (hf28 : 28 ∉ Λ.1) (hf29 : 29 ∉ Λ.1) (hf30 : 30 ∉ Λ.1) (hf31 : 31 ∉ Λ.1) (hf32 : 32 ∉ Λ.1) (hf33 : 33 ∉ Λ.1) (hf34 : 34 ∉ Λ.1) (hf35 : 35 ∉ Λ.1) : gCe K 3 35 1899 jX11_init [vR 0] ι ρ Λ none (xIniI ι) (xIniR ρ) (xIniL Λ) := by
  refine gC_of (by decide) (nle rfl) ?_
  refine x_aload_n 0 DX11_init_0 rfl rfl ?_
  refine x_objInit DX11_init_1 gw1_22 gw1_23 gw1_24 (nle rfl) (nle rfl) ?_
  refine x_aload_n 0 DX11_init_4 rfl rfl ?_
  refine x_bipush 7 DX11_init_5 (by decide) ?_
  refine x_newa (t := 0) 1 7 DX11_init_7 rfl (Or.inl ⟨rfl, rfl⟩) gw1_47 hf1 (by decide) rfl (nle rfl) (nle rfl) (nle rfl) (fun ι7 ρ7 Λ7 e_ι7 e_ρ7 e_Λ7 => ?_)
  refine x_widen 1 7 (nle rfl) (nle rfl) ?_
  refine x_putrF 0 DX11_init_9 F11_7 rfl rfl rfl (by first | exact Or.inl ⟨_, rfl⟩ | exact Or.inr ⟨_, rfl⟩) rfl (fun ρ9 e_ρ9 => ?_)
  refine x_aload_n 0 DX11_init_12 rfl rfl ?_
  refine x_new (ci := 8) 2 3 DX11_init_13 rfl ("GrassBridge$Season", gf8, 3) rfl rfl gw1_25 gw1_26 gw1_2 (by subst_vars; simp [hf2]) (nle rfl) (nle rfl) (fun ι13 ρ13 Λ13 e_ι13 e_ρ13 e_Λ13 => ?_)
  refine x_widen 2 10 (nle rfl) (nle rfl) ?_
  refine x_dup DX11_init_16 ?_
  refine x_Ie (av := []) (rest := [vR 2, vR 0]) (st' := [vR 2, vR 0]) 3 62 DX11_init_17 L11_15 rfl rfl ⟨nle rfl, nle rfl, nle rfl⟩ ⟨rfl, nle rfl⟩ ⟨rfl, nle rfl⟩ (x_SeasonI K ι13 ρ13 Λ13 (by subst_vars; simp [hf3])) rfl ?_
  refine x_nmι (fun ι17 e_ι17 => ?_)
  refine x_nmρ (fun ρ17 e_ρ17 => ?_)
  refine x_nmΛ (fun Λ17 e_Λ17 => ?_)
  refine x_putrF 1 DX11_init_20 F11_16 rfl rfl rfl (by first | exact Or.inl ⟨_, rfl⟩ | exact Or.inr ⟨_, rfl⟩) rfl (fun ρ20 e_ρ20 => ?_)
  refine x_aload_n 0 DX11_init_23 rfl rfl ?_
  refine x_new (ci := 3) 4 4 DX11_init_24 rfl ("GrassBridge$Houses", gf3, 4) rfl rfl gw1_48 gw1_49 gw1_3 (by subst_vars; simp [hf4]) (nle rfl) (nle rfl) (fun ι24 ρ24 Λ24 e_ι24 e_ρ24 e_Λ24 => ?_)
  refine x_widen 4 66 (nle rfl) (nle rfl) ?_
  refine x_dup DX11_init_27 ?_
  refine x_Ne (av := []) (rest := [vR 4, vR 0]) (st' := [vR 4, vR 0]) 6 114 DX11_init_28 L11_22 rfl rfl ⟨nle rfl, nle rfl, nle rfl⟩ ⟨rfl, nle rfl⟩ ⟨rfl, nle rfl⟩ (x_HousesI K ι24 ρ24 Λ24 (by subst_vars; simp [hf5]) (by subst_vars; simp [hf6])) rfl ?_
  refine x_nmι (fun ι28 e_ι28 => ?_)
  refine x_nmρ (fun ρ28 e_ρ28 => ?_)
  refine x_nmΛ (fun Λ28 e_Λ28 => ?_)
  refine x_putrF 2 DX11_init_31 F11_23 rfl rfl rfl (by first | exact Or.inl ⟨_, rfl⟩ | exact Or.inr ⟨_, rfl⟩) rfl (fun ρ31 e_ρ31 => ?_)
  refine x_aload_n 0 DX11_init_34 rfl rfl ?_
  refine x_new (ci := 7) 7 2 DX11_init_35 rfl ("GrassBridge$RopeYard", gf7, 2) rfl rfl gw1_71 gw1_72 gw1_4 (by subst_vars; simp [hf7]) (nle rfl) (nle rfl) (fun ι35 ρ35 Λ35 e_ι35 e_ρ35 e_Λ35 => ?_)
  refine x_widen 7 116 (nle rfl) (nle rfl) ?_
  refine x_dup DX11_init_38 ?_
  refine x_Ne (av := []) (rest := [vR 7, vR 0]) (st' := [vR 7, vR 0]) 8 316 DX11_init_39 L11_29 rfl rfl ⟨nle rfl, nle rfl, nle rfl⟩ ⟨rfl, nle rfl⟩ ⟨rfl, nle rfl⟩ (x_RopeYardI K ι35 ρ35 Λ35 (by subst_vars; simp [hf8])) rfl ?_
  refine x_nmι (fun ι39 e_ι39 => ?_)
  refine x_nmρ (fun ρ39 e_ρ39 => ?_)
  refine x_nmΛ (fun Λ39 e_Λ39 => ?_)
  refine x_putrF 3 DX11_init_42 F11_30 rfl rfl rfl (by first | exact Or.inl ⟨_, rfl⟩ | exact Or.inr ⟨_, rfl⟩) rfl (fun ρ42 e_ρ42 => ?_)
  refine x_aload_n 0 DX11_init_45 rfl rfl ?_
  refine x_new (ci := 9) 9 4 DX11_init_46 rfl ("GrassBridge$Span", gf9, 4) rfl rfl gw1_87 gw1_88 gw1_5 (by subst_vars; simp [hf9]) (nle rfl) (nle rfl) (fun ι46 ρ46 Λ46 e_ι46 e_ρ46 e_Λ46 => ?_)
  refine x_widen 9 320 (nle rfl) (nle rfl) ?_
  refine x_dup DX11_init_49 ?_
  refine x_Ne (av := []) (rest := [vR 9, vR 0]) (st' := [vR 9, vR 0]) 13 344 DX11_init_50 L11_36 rfl rfl ⟨nle rfl, nle rfl, nle rfl⟩ ⟨rfl, nle rfl⟩ ⟨rfl, nle rfl⟩ (x_SpanI K ι46 ρ46 Λ46 (by subst_vars; simp [hf10]) (by subst_vars; simp [hf11]) (by subst_vars; simp [hf12]) (by subst_vars; simp [hf13])) rfl ?_
  refine x_nmι (fun ι50 e_ι50 => ?_)
  refine x_nmρ (fun ρ50 e_ρ50 => ?_)
  refine x_nmΛ (fun Λ50 e_Λ50 => ?_)
  refine x_putrF 4 DX11_init_53 F11_37 rfl rfl rfl (by first | exact Or.inl ⟨_, rfl⟩ | exact Or.inr ⟨_, rfl⟩) rfl (fun ρ53 e_ρ53 => ?_)
  refine x_aload_n 0 DX11_init_56 rfl rfl ?_
  refine x_new (ci := 1) 14 2 DX11_init_57 rfl ("GrassBridge$Breaks", gf1, 2) rfl rfl gw1_107 gw1_108 gw1_6 (by subst_vars; simp [hf14]) (nle rfl) (nle rfl) (fun ι57 ρ57 Λ57 e_ι57 e_ρ57 e_Λ57 => ?_)
  refine x_widen 14 346 (nle rfl) (nle rfl) ?_
  refine x_dup DX11_init_60 ?_
  refine x_Ne (av := []) (rest := [vR 14, vR 0]) (st' := [vR 14, vR 0]) 15 386 DX11_init_61 L11_43 rfl rfl ⟨nle rfl, nle rfl, nle rfl⟩ ⟨rfl, nle rfl⟩ ⟨rfl, nle rfl⟩ (x_BreaksI K ι57 ρ57 Λ57 (by subst_vars; simp [hf15])) rfl ?_
  refine x_nmι (fun ι61 e_ι61 => ?_)
  refine x_nmρ (fun ρ61 e_ρ61 => ?_)
  refine x_nmΛ (fun Λ61 e_Λ61 => ?_)
  refine x_putrF 5 DX11_init_64 F11_44 rfl rfl rfl (by first | exact Or.inl ⟨_, rfl⟩ | exact Or.inr ⟨_, rfl⟩) rfl (fun ρ64 e_ρ64 => ?_)
  refine x_aload_n 0 DX11_init_67 rfl rfl ?_
  refine x_new (ci := 10) 16 7 DX11_init_68 rfl ("GrassBridge$Work", gf10, 7) rfl rfl gw1_123 gw1_124 gw1_7 (by subst_vars; simp [hf16]) (nle rfl) (nle rfl) (fun ι68 ρ68 Λ68 e_ι68 e_ρ68 e_Λ68 => ?_)
  refine x_widen 16 393 (nle rfl) (nle rfl) ?_
  refine x_dup DX11_init_71 ?_
  refine x_Ne (av := []) (rest := [vR 16, vR 0]) (st' := [vR 16, vR 0]) 21 453 DX11_init_72 L11_50 rfl rfl ⟨nle rfl, nle rfl, nle rfl⟩ ⟨rfl, nle rfl⟩ ⟨rfl, nle rfl⟩ (x_WorkI K ι68 ρ68 Λ68 (by subst_vars; simp [hf17]) (by subst_vars; simp [hf18]) (by subst_vars; simp [hf19]) (by subst_vars; simp [hf20]) (by subst_vars; simp [hf21])) rfl ?_
  refine x_nmι (fun ι72 e_ι72 => ?_)
  refine x_nmρ (fun ρ72 e_ρ72 => ?_)
  refine x_nmΛ (fun Λ72 e_Λ72 => ?_)
  refine x_putrF 6 DX11_init_75 F11_51 rfl rfl rfl (by first | exact Or.inl ⟨_, rfl⟩ | exact Or.inr ⟨_, rfl⟩) rfl (fun ρ75 e_ρ75 => ?_)
  refine x_aload_n 0 DX11_init_78 rfl rfl ?_
  refine x_new (ci := 5) 22 15 DX11_init_79 rfl ("GrassBridge$Planner", gf5, 15) rfl rfl gw1_159 gw1_160 gw1_8 (by subst_vars; simp [hf22]) (nle rfl) (nle rfl) (fun ι79 ρ79 Λ79 e_ι79 e_ρ79 e_Λ79 => ?_)
  refine x_widen 22 468 (nle rfl) (nle rfl) ?_
  refine x_dup DX11_init_82 ?_
  refine x_aload_n 0 DX11_init_83 rfl rfl ?_
  refine x_getr 6 (some 16) DX11_init_84 (Or.inr F11_51) rfl rfl (by subst_vars; rfl) ?_
  refine x_Ie (av := [vR 16]) (rest := [vR 22, vR 0]) (st' := [vR 22, vR 0]) 30 1774 DX11_init_87 L11_57 rfl rfl ⟨nle rfl, nle rfl, nle rfl⟩ ⟨rfl, nle rfl⟩ ⟨rfl, nle rfl⟩ (x_PlannerI K ι79 ρ79 Λ79 (by subst_vars; simp [hf23]) (by subst_vars; simp [hf24]) (by subst_vars; simp [hf25]) (by subst_vars; simp [hf26]) (by subst_vars; simp [hf27]) (by subst_vars; simp [hf28]) (by subst_vars; simp [hf29]) (by subst_vars; simp [hf30])) rfl ?_
  refine x_nmι (fun ι87 e_ι87 => ?_)
  refine x_nmρ (fun ρ87 e_ρ87 => ?_)
  refine x_nmΛ (fun Λ87 e_Λ87 => ?_)
  refine x_putrF 7 DX11_init_90 F11_60 rfl rfl rfl (by first | exact Or.inl ⟨_, rfl⟩ | exact Or.inr ⟨_, rfl⟩) rfl (fun ρ90 e_ρ90 => ?_)
  refine x_aload_n 0 DX11_init_93 rfl rfl ?_
  refine x_new (ci := 4) 31 5 DX11_init_94 rfl ("GrassBridge$People", gf4, 5) rfl rfl gw1_211 gw1_212 gw1_9 (by subst_vars; simp [hf31]) (nle rfl) (nle rfl) (fun ι94 ρ94 Λ94 e_ι94 e_ρ94 e_Λ94 => ?_)
  refine x_widen 31 1779 (nle rfl) (nle rfl) ?_
  refine x_dup DX11_init_97 ?_
  refine x_Ne (av := []) (rest := [vR 31, vR 0]) (st' := [vR 31, vR 0]) 35 1899 DX11_init_98 L11_66 rfl rfl ⟨nle rfl, nle rfl, nle rfl⟩ ⟨rfl, nle rfl⟩ ⟨rfl, nle rfl⟩ (x_PeopleI K ι94 ρ94 Λ94 (by subst_vars; simp [hf32]) (by subst_vars; simp [hf33]) (by subst_vars; simp [hf34]) (by subst_vars; simp [hf35])) rfl ?_
  refine x_nmι (fun ι98 e_ι98 => ?_)
  refine x_nmρ (fun ρ98 e_ρ98 => ?_)
  refine x_nmΛ (fun Λ98 e_Λ98 => ?_)
  refine x_putrF 8 DX11_init_101 F11_67 rfl rfl rfl (by first | exact Or.inl ⟨_, rfl⟩ | exact Or.inr ⟨_, rfl⟩) rfl (fun ρ101 e_ρ101 => ?_)
  exact x_return DX11_init_104 rfl ⟨rfl, by subst_vars; rfl, by subst_vars; rfl, by subst_vars; rfl⟩
