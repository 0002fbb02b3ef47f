/-! constructors, V: the model -/
def mIniI0 (ι : gIm) : gIm := (va_up (va_up (va_up (va_up (va_up (va_up (va_up (va_up (va_up (va_up (va_up (va_up (va_up (va_up (va_up (va_up (va_up (va_up (va_up (va_up (va_up (va_up (va_up (va_up (va_up (va_up (va_up (va_up (va_up (va_up (va_up (va_up (va_up (va_up (va_up (va_up ι 41 (fun _ => 0)) 42 (fun _ => 0)) 43 (fun _ => 0)) 44 (fun _ => 0)) 45 (fun _ => 0)) 46 (fun _ => 0)) 47 (fun _ => 0)) 48 (fun _ => 0)) 49 (fun _ => 0)) 50 (fun _ => 0)) 51 (fun _ => 0)) 52 (fun _ => 0)) 53 (fun _ => 0)) 54 (fun _ => 0)) 55 (fun _ => 0)) 56 (fun _ => 0)) 57 (fun _ => 0)) 58 (fun _ => 0)) 59 (fun _ => 0)) 60 (fun _ => 0)) 61 (fun _ => 0)) 62 (fun _ => 0)) 63 (fun _ => 0)) 64 (fun _ => 0)) 65 (fun _ => 0)) 66 (fun _ => 0)) 67 (fun _ => 0)) 68 (fun _ => 0)) 69 (fun _ => 0)) 70 (fun _ => 0)) 71 (fun _ => 0)) 72 (fun _ => 0)) 73 (fun _ => 0)) 74 (fun _ => 0)) 75 (fun _ => 0)) 76 (fun _ => 0))
def mIniR (ρ : gRm) : gRm := (up2 (va_up (up2 (va_up (up2 (va_up (up2 (va_up (up2 (va_up (up2 (va_up (up2 (va_up (up2 (va_up (up2 (va_up (up2 (va_up (up2 (va_up (up2 (va_up (up2 (va_up (up2 (va_up (up2 (va_up (up2 (va_up (up2 (va_up (up2 (va_up (up2 (va_up (up2 (va_up (up2 (va_up (up2 (va_up (up2 (va_up (up2 (va_up (up2 (va_up (up2 (va_up (up2 (va_up (up2 (va_up (up2 (va_up (up2 (va_up (up2 (va_up (up2 (va_up (up2 (va_up (up2 (va_up (up2 (va_up (up2 (va_up ρ 41 (fun _ => none)) 40 0 (some 41)) 42 (fun _ => none)) 40 1 (some 42)) 43 (fun _ => none)) 40 10 (some 43)) 44 (fun _ => none)) 40 11 (some 44)) 45 (fun _ => none)) 40 12 (some 45)) 46 (fun _ => none)) 40 13 (some 46)) 47 (fun _ => none)) 40 14 (some 47)) 48 (fun _ => none)) 40 15 (some 48)) 49 (fun _ => none)) 40 16 (some 49)) 50 (fun _ => none)) 40 17 (some 50)) 51 (fun _ => none)) 40 18 (some 51)) 52 (fun _ => none)) 40 19 (some 52)) 53 (fun _ => none)) 40 20 (some 53)) 54 (fun _ => none)) 40 21 (some 54)) 55 (fun _ => none)) 40 22 (some 55)) 56 (fun _ => none)) 40 23 (some 56)) 57 (fun _ => none)) 40 24 (some 57)) 58 (fun _ => none)) 40 25 (some 58)) 59 (fun _ => none)) 40 26 (some 59)) 60 (fun _ => none)) 40 27 (some 60)) 61 (fun _ => none)) 40 28 (some 61)) 62 (fun _ => none)) 40 29 (some 62)) 63 (fun _ => none)) 40 30 (some 63)) 64 (fun _ => none)) 40 31 (some 64)) 65 (fun _ => none)) 40 32 (some 65)) 66 (fun _ => none)) 40 33 (some 66)) 67 (fun _ => none)) 40 34 (some 67)) 68 (fun _ => none)) 40 35 (some 68)) 69 (fun _ => none)) 40 36 (some 69)) 70 (fun _ => none)) 40 37 (some 70)) 71 (fun _ => none)) 40 38 (some 71)) 72 (fun _ => none)) 40 39 (some 72)) 73 (fun _ => none)) 40 40 (some 73)) 74 (fun _ => none)) 40 42 (some 74)) 75 (fun _ => none)) 40 43 (some 75)) 76 (fun _ => none)) 40 44 (some 76))
def mIniL (Λ : gLm) : gLm := (((((((((((((((((((((((((((((((((((((Λ.1 ++ [41]) ++ [42]) ++ [43]) ++ [44]) ++ [45]) ++ [46]) ++ [47]) ++ [48]) ++ [49]) ++ [50]) ++ [51]) ++ [52]) ++ [53]) ++ [54]) ++ [55]) ++ [56]) ++ [57]) ++ [58]) ++ [59]) ++ [60]) ++ [61]) ++ [62]) ++ [63]) ++ [64]) ++ [65]) ++ [66]) ++ [67]) ++ [68]) ++ [69]) ++ [70]) ++ [71]) ++ [72]) ++ [73]) ++ [74]) ++ [75]) ++ [76]), (va_up (va_up (va_up (va_up (va_up (va_up (va_up (va_up (va_up (va_up (va_up (va_up (va_up (va_up (va_up (va_up (va_up (va_up (va_up (va_up (va_up (va_up (va_up (va_up (va_up (va_up (va_up (va_up (va_up (va_up (va_up (va_up (va_up (va_up (va_up (va_up Λ.2 41 7) 42 52) 43 24) 44 24) 45 24) 46 24) 47 24) 48 24) 49 24) 50 24) 51 24) 52 200) 53 200) 54 200) 55 200) 56 600) 57 600) 58 200) 59 6) 60 6) 61 6) 62 6) 63 120) 64 24) 65 9) 66 12) 67 12) 68 12) 69 12) 70 12) 71 8) 72 8) 73 9) 74 30) 75 30) 76 30))
def mIni1 (ι : gIm) (n : Nat) : gIm := va_up ι 42 (fil (fun _ => -1) n (ι 42))
def mIni2 (ι : gIm) (n : Nat) : gIm := va_up ι 59 (fil (fun _ => -9) n (ι 59))
def mIniI (ι : gIm) : gIm := mIni2 (mIni1 (mIniI0 ι) 52) 6
theorem m_init (K : gK)  (ι : gIm) (ρ : gRm) (Λ : gLm) (hf : ∀ c, 41 ≤ c → c ≤ 76 → c ∉ Λ.1) : gCe K 2 36 2827 jX12_init [vR 40] ι ρ Λ none (mIniI ι) (mIniR ρ) (mIniL Λ) := by
  refine gC_of (by decide) (nle rfl) ?_
  refine x_aload_n 0 DX12_init_0 rfl rfl ?_
  refine x_objInit DX12_init_1 gw4_80 gw1_23 gw1_24 (nle rfl) (nle rfl) ?_
  refine x_aload_n 0 DX12_init_4 rfl rfl ?_
  refine x_bipush 7 DX12_init_5 (by decide) ?_
  refine x_newa (t := 0) 41 7 DX12_init_7 rfl (Or.inl ⟨rfl, rfl⟩) gw1_47 (hf 41 (by decide) (by decide)) (by decide) rfl (nle rfl) (nle rfl) (nle rfl) (fun ι7 ρ7 Λ7 e_ι7 e_ρ7 e_Λ7 => ?_)
  refine x_widen 1 7 (nle rfl) (nle rfl) ?_
  refine x_putrF 0 DX12_init_9 F12_7 rfl rfl rfl (by first | exact Or.inl ⟨_, rfl⟩ | exact Or.inr ⟨_, rfl⟩) rfl (fun ρ9 e_ρ9 => ?_)
  refine x_aload_n 0 DX12_init_12 rfl rfl ?_
  refine x_bipush 52 DX12_init_13 (by decide) ?_
  refine x_newa (t := 0) 42 52 DX12_init_15 rfl (Or.inl ⟨rfl, rfl⟩) gw1_47 (by subst_vars; simp [hf 42 (by decide) (by decide)]) (by decide) rfl (nle rfl) (nle rfl) (nle rfl) (fun ι15 ρ15 Λ15 e_ι15 e_ρ15 e_Λ15 => ?_)
  refine x_widen 2 59 (nle rfl) (nle rfl) ?_
  refine x_putrF 1 DX12_init_17 F12_13 rfl rfl rfl (by first | exact Or.inl ⟨_, rfl⟩ | exact Or.inr ⟨_, rfl⟩) rfl (fun ρ17 e_ρ17 => ?_)
  refine x_aload_n 0 DX12_init_20 rfl rfl ?_
  refine x_bipush 24 DX12_init_21 (by decide) ?_
  refine x_newa (t := 0) 43 24 DX12_init_23 rfl (Or.inl ⟨rfl, rfl⟩) gw1_47 (by subst_vars; simp [hf 43 (by decide) (by decide)]) (by decide) rfl (nle rfl) (nle rfl) (nle rfl) (fun ι23 ρ23 Λ23 e_ι23 e_ρ23 e_Λ23 => ?_)
  refine x_widen 3 83 (nle rfl) (nle rfl) ?_
  refine x_putrF 10 DX12_init_25 F12_16 rfl rfl rfl (by first | exact Or.inl ⟨_, rfl⟩ | exact Or.inr ⟨_, rfl⟩) rfl (fun ρ25 e_ρ25 => ?_)
  refine x_aload_n 0 DX12_init_28 rfl rfl ?_
  refine x_bipush 24 DX12_init_29 (by decide) ?_
  refine x_newa (t := 0) 44 24 DX12_init_31 rfl (Or.inl ⟨rfl, rfl⟩) gw1_47 (by subst_vars; simp [hf 44 (by decide) (by decide)]) (by decide) rfl (nle rfl) (nle rfl) (nle rfl) (fun ι31 ρ31 Λ31 e_ι31 e_ρ31 e_Λ31 => ?_)
  refine x_widen 4 107 (nle rfl) (nle rfl) ?_
  refine x_putrF 11 DX12_init_33 F12_19 rfl rfl rfl (by first | exact Or.inl ⟨_, rfl⟩ | exact Or.inr ⟨_, rfl⟩) rfl (fun ρ33 e_ρ33 => ?_)
  refine x_aload_n 0 DX12_init_36 rfl rfl ?_
  refine x_bipush 24 DX12_init_37 (by decide) ?_
  refine x_newa (t := 0) 45 24 DX12_init_39 rfl (Or.inl ⟨rfl, rfl⟩) gw1_47 (by subst_vars; simp [hf 45 (by decide) (by decide)]) (by decide) rfl (nle rfl) (nle rfl) (nle rfl) (fun ι39 ρ39 Λ39 e_ι39 e_ρ39 e_Λ39 => ?_)
  refine x_widen 5 131 (nle rfl) (nle rfl) ?_
  refine x_putrF 12 DX12_init_41 F12_22 rfl rfl rfl (by first | exact Or.inl ⟨_, rfl⟩ | exact Or.inr ⟨_, rfl⟩) rfl (fun ρ41 e_ρ41 => ?_)
  refine x_aload_n 0 DX12_init_44 rfl rfl ?_
  refine x_bipush 24 DX12_init_45 (by decide) ?_
  refine x_newa (t := 0) 46 24 DX12_init_47 rfl (Or.inl ⟨rfl, rfl⟩) gw1_47 (by subst_vars; simp [hf 46 (by decide) (by decide)]) (by decide) rfl (nle rfl) (nle rfl) (nle rfl) (fun ι47 ρ47 Λ47 e_ι47 e_ρ47 e_Λ47 => ?_)
  refine x_widen 6 155 (nle rfl) (nle rfl) ?_
  refine x_putrF 13 DX12_init_49 F12_25 rfl rfl rfl (by first | exact Or.inl ⟨_, rfl⟩ | exact Or.inr ⟨_, rfl⟩) rfl (fun ρ49 e_ρ49 => ?_)
  refine x_aload_n 0 DX12_init_52 rfl rfl ?_
  refine x_bipush 24 DX12_init_53 (by decide) ?_
  refine x_newa (t := 0) 47 24 DX12_init_55 rfl (Or.inl ⟨rfl, rfl⟩) gw1_47 (by subst_vars; simp [hf 47 (by decide) (by decide)]) (by decide) rfl (nle rfl) (nle rfl) (nle rfl) (fun ι55 ρ55 Λ55 e_ι55 e_ρ55 e_Λ55 => ?_)
  refine x_widen 7 179 (nle rfl) (nle rfl) ?_
  refine x_putrF 14 DX12_init_57 F12_28 rfl rfl rfl (by first | exact Or.inl ⟨_, rfl⟩ | exact Or.inr ⟨_, rfl⟩) rfl (fun ρ57 e_ρ57 => ?_)
  refine x_aload_n 0 DX12_init_60 rfl rfl ?_
  refine x_bipush 24 DX12_init_61 (by decide) ?_
  refine x_newa (t := 0) 48 24 DX12_init_63 rfl (Or.inl ⟨rfl, rfl⟩) gw1_47 (by subst_vars; simp [hf 48 (by decide) (by decide)]) (by decide) rfl (nle rfl) (nle rfl) (nle rfl) (fun ι63 ρ63 Λ63 e_ι63 e_ρ63 e_Λ63 => ?_)
  refine x_widen 8 203 (nle rfl) (nle rfl) ?_
  refine x_putrF 15 DX12_init_65 F12_31 rfl rfl rfl (by first | exact Or.inl ⟨_, rfl⟩ | exact Or.inr ⟨_, rfl⟩) rfl (fun ρ65 e_ρ65 => ?_)
  refine x_aload_n 0 DX12_init_68 rfl rfl ?_
  refine x_bipush 24 DX12_init_69 (by decide) ?_
  refine x_newa (t := 0) 49 24 DX12_init_71 rfl (Or.inl ⟨rfl, rfl⟩) gw1_47 (by subst_vars; simp [hf 49 (by decide) (by decide)]) (by decide) rfl (nle rfl) (nle rfl) (nle rfl) (fun ι71 ρ71 Λ71 e_ι71 e_ρ71 e_Λ71 => ?_)
  refine x_widen 9 227 (nle rfl) (nle rfl) ?_
  refine x_putrF 16 DX12_init_73 F12_34 rfl rfl rfl (by first | exact Or.inl ⟨_, rfl⟩ | exact Or.inr ⟨_, rfl⟩) rfl (fun ρ73 e_ρ73 => ?_)
  refine x_aload_n 0 DX12_init_76 rfl rfl ?_
  refine x_bipush 24 DX12_init_77 (by decide) ?_
  refine x_newa (t := 1) 50 24 DX12_init_79 rfl (Or.inr ⟨rfl, rfl⟩) gw1_234 (by subst_vars; simp [hf 50 (by decide) (by decide)]) (by decide) rfl (nle rfl) (nle rfl) (nle rfl) (fun ι79 ρ79 Λ79 e_ι79 e_ρ79 e_Λ79 => ?_)
  refine x_widen 10 251 (nle rfl) (nle rfl) ?_
  refine x_putrF 17 DX12_init_81 F12_37 rfl rfl rfl (by first | exact Or.inl ⟨_, rfl⟩ | exact Or.inr ⟨_, rfl⟩) rfl (fun ρ81 e_ρ81 => ?_)
  refine x_aload_n 0 DX12_init_84 rfl rfl ?_
  refine x_bipush 24 DX12_init_85 (by decide) ?_
  refine x_newa (t := 1) 51 24 DX12_init_87 rfl (Or.inr ⟨rfl, rfl⟩) gw1_234 (by subst_vars; simp [hf 51 (by decide) (by decide)]) (by decide) rfl (nle rfl) (nle rfl) (nle rfl) (fun ι87 ρ87 Λ87 e_ι87 e_ρ87 e_Λ87 => ?_)
  refine x_widen 11 275 (nle rfl) (nle rfl) ?_
  refine x_putrF 18 DX12_init_89 F12_41 rfl rfl rfl (by first | exact Or.inl ⟨_, rfl⟩ | exact Or.inr ⟨_, rfl⟩) rfl (fun ρ89 e_ρ89 => ?_)
  refine x_aload_n 0 DX12_init_92 rfl rfl ?_
  refine x_sipush 200 DX12_init_93 (by decide) ?_
  refine x_newa (t := 0) 52 200 DX12_init_96 rfl (Or.inl ⟨rfl, rfl⟩) gw1_47 (by subst_vars; simp [hf 52 (by decide) (by decide)]) (by decide) rfl (nle rfl) (nle rfl) (nle rfl) (fun ι96 ρ96 Λ96 e_ι96 e_ρ96 e_Λ96 => ?_)
  refine x_widen 12 475 (nle rfl) (nle rfl) ?_
  refine x_putrF 19 DX12_init_98 F12_44 rfl rfl rfl (by first | exact Or.inl ⟨_, rfl⟩ | exact Or.inr ⟨_, rfl⟩) rfl (fun ρ98 e_ρ98 => ?_)
  refine x_aload_n 0 DX12_init_101 rfl rfl ?_
  refine x_sipush 200 DX12_init_102 (by decide) ?_
  refine x_newa (t := 0) 53 200 DX12_init_105 rfl (Or.inl ⟨rfl, rfl⟩) gw1_47 (by subst_vars; simp [hf 53 (by decide) (by decide)]) (by decide) rfl (nle rfl) (nle rfl) (nle rfl) (fun ι105 ρ105 Λ105 e_ι105 e_ρ105 e_Λ105 => ?_)
  refine x_widen 13 675 (nle rfl) (nle rfl) ?_
  refine x_putrF 20 DX12_init_107 F12_47 rfl rfl rfl (by first | exact Or.inl ⟨_, rfl⟩ | exact Or.inr ⟨_, rfl⟩) rfl (fun ρ107 e_ρ107 => ?_)
  refine x_aload_n 0 DX12_init_110 rfl rfl ?_
  refine x_sipush 200 DX12_init_111 (by decide) ?_
  refine x_newa (t := 0) 54 200 DX12_init_114 rfl (Or.inl ⟨rfl, rfl⟩) gw1_47 (by subst_vars; simp [hf 54 (by decide) (by decide)]) (by decide) rfl (nle rfl) (nle rfl) (nle rfl) (fun ι114 ρ114 Λ114 e_ι114 e_ρ114 e_Λ114 => ?_)
  refine x_widen 14 875 (nle rfl) (nle rfl) ?_
  refine x_putrF 21 DX12_init_116 F12_50 rfl rfl rfl (by first | exact Or.inl ⟨_, rfl⟩ | exact Or.inr ⟨_, rfl⟩) rfl (fun ρ116 e_ρ116 => ?_)
  refine x_aload_n 0 DX12_init_119 rfl rfl ?_
  refine x_sipush 200 DX12_init_120 (by decide) ?_
  refine x_newa (t := 0) 55 200 DX12_init_123 rfl (Or.inl ⟨rfl, rfl⟩) gw1_47 (by subst_vars; simp [hf 55 (by decide) (by decide)]) (by decide) rfl (nle rfl) (nle rfl) (nle rfl) (fun ι123 ρ123 Λ123 e_ι123 e_ρ123 e_Λ123 => ?_)
  refine x_widen 15 1075 (nle rfl) (nle rfl) ?_
  refine x_putrF 22 DX12_init_125 F12_53 rfl rfl rfl (by first | exact Or.inl ⟨_, rfl⟩ | exact Or.inr ⟨_, rfl⟩) rfl (fun ρ125 e_ρ125 => ?_)
  refine x_aload_n 0 DX12_init_128 rfl rfl ?_
  refine x_sipush 600 DX12_init_129 (by decide) ?_
  refine x_newa (t := 0) 56 600 DX12_init_132 rfl (Or.inl ⟨rfl, rfl⟩) gw1_47 (by subst_vars; simp [hf 56 (by decide) (by decide)]) (by decide) rfl (nle rfl) (nle rfl) (nle rfl) (fun ι132 ρ132 Λ132 e_ι132 e_ρ132 e_Λ132 => ?_)
  refine x_widen 16 1675 (nle rfl) (nle rfl) ?_
  refine x_putrF 23 DX12_init_134 F12_56 rfl rfl rfl (by first | exact Or.inl ⟨_, rfl⟩ | exact Or.inr ⟨_, rfl⟩) rfl (fun ρ134 e_ρ134 => ?_)
  refine x_aload_n 0 DX12_init_137 rfl rfl ?_
  refine x_sipush 600 DX12_init_138 (by decide) ?_
  refine x_newa (t := 0) 57 600 DX12_init_141 rfl (Or.inl ⟨rfl, rfl⟩) gw1_47 (by subst_vars; simp [hf 57 (by decide) (by decide)]) (by decide) rfl (nle rfl) (nle rfl) (nle rfl) (fun ι141 ρ141 Λ141 e_ι141 e_ρ141 e_Λ141 => ?_)
  refine x_widen 17 2275 (nle rfl) (nle rfl) ?_
  refine x_putrF 24 DX12_init_143 F12_59 rfl rfl rfl (by first | exact Or.inl ⟨_, rfl⟩ | exact Or.inr ⟨_, rfl⟩) rfl (fun ρ143 e_ρ143 => ?_)
  refine x_aload_n 0 DX12_init_146 rfl rfl ?_
  refine x_sipush 200 DX12_init_147 (by decide) ?_
  refine x_newa (t := 1) 58 200 DX12_init_150 rfl (Or.inr ⟨rfl, rfl⟩) gw1_234 (by subst_vars; simp [hf 58 (by decide) (by decide)]) (by decide) rfl (nle rfl) (nle rfl) (nle rfl) (fun ι150 ρ150 Λ150 e_ι150 e_ρ150 e_Λ150 => ?_)
  refine x_widen 18 2475 (nle rfl) (nle rfl) ?_
  refine x_putrF 25 DX12_init_152 F12_62 rfl rfl rfl (by first | exact Or.inl ⟨_, rfl⟩ | exact Or.inr ⟨_, rfl⟩) rfl (fun ρ152 e_ρ152 => ?_)
  refine x_aload_n 0 DX12_init_155 rfl rfl ?_
  refine x_bipush 6 DX12_init_156 (by decide) ?_
  refine x_newa (t := 0) 59 6 DX12_init_158 rfl (Or.inl ⟨rfl, rfl⟩) gw1_47 (by subst_vars; simp [hf 59 (by decide) (by decide)]) (by decide) rfl (nle rfl) (nle rfl) (nle rfl) (fun ι158 ρ158 Λ158 e_ι158 e_ρ158 e_Λ158 => ?_)
  refine x_widen 19 2481 (nle rfl) (nle rfl) ?_
  refine x_putrF 26 DX12_init_160 F12_65 rfl rfl rfl (by first | exact Or.inl ⟨_, rfl⟩ | exact Or.inr ⟨_, rfl⟩) rfl (fun ρ160 e_ρ160 => ?_)
  refine x_aload_n 0 DX12_init_163 rfl rfl ?_
  refine x_bipush 6 DX12_init_164 (by decide) ?_
  refine x_newa (t := 0) 60 6 DX12_init_166 rfl (Or.inl ⟨rfl, rfl⟩) gw1_47 (by subst_vars; simp [hf 60 (by decide) (by decide)]) (by decide) rfl (nle rfl) (nle rfl) (nle rfl) (fun ι166 ρ166 Λ166 e_ι166 e_ρ166 e_Λ166 => ?_)
  refine x_widen 20 2487 (nle rfl) (nle rfl) ?_
  refine x_putrF 27 DX12_init_168 F12_68 rfl rfl rfl (by first | exact Or.inl ⟨_, rfl⟩ | exact Or.inr ⟨_, rfl⟩) rfl (fun ρ168 e_ρ168 => ?_)
  refine x_aload_n 0 DX12_init_171 rfl rfl ?_
  refine x_bipush 6 DX12_init_172 (by decide) ?_
  refine x_newa (t := 0) 61 6 DX12_init_174 rfl (Or.inl ⟨rfl, rfl⟩) gw1_47 (by subst_vars; simp [hf 61 (by decide) (by decide)]) (by decide) rfl (nle rfl) (nle rfl) (nle rfl) (fun ι174 ρ174 Λ174 e_ι174 e_ρ174 e_Λ174 => ?_)
  refine x_widen 21 2493 (nle rfl) (nle rfl) ?_
  refine x_putrF 28 DX12_init_176 F12_71 rfl rfl rfl (by first | exact Or.inl ⟨_, rfl⟩ | exact Or.inr ⟨_, rfl⟩) rfl (fun ρ176 e_ρ176 => ?_)
  refine x_aload_n 0 DX12_init_179 rfl rfl ?_
  refine x_bipush 6 DX12_init_180 (by decide) ?_
  refine x_newa (t := 0) 62 6 DX12_init_182 rfl (Or.inl ⟨rfl, rfl⟩) gw1_47 (by subst_vars; simp [hf 62 (by decide) (by decide)]) (by decide) rfl (nle rfl) (nle rfl) (nle rfl) (fun ι182 ρ182 Λ182 e_ι182 e_ρ182 e_Λ182 => ?_)
  refine x_widen 22 2499 (nle rfl) (nle rfl) ?_
  refine x_putrF 29 DX12_init_184 F12_74 rfl rfl rfl (by first | exact Or.inl ⟨_, rfl⟩ | exact Or.inr ⟨_, rfl⟩) rfl (fun ρ184 e_ρ184 => ?_)
  refine x_aload_n 0 DX12_init_187 rfl rfl ?_
  refine x_bipush 120 DX12_init_188 (by decide) ?_
  refine x_newa (t := 0) 63 120 DX12_init_190 rfl (Or.inl ⟨rfl, rfl⟩) gw1_47 (by subst_vars; simp [hf 63 (by decide) (by decide)]) (by decide) rfl (nle rfl) (nle rfl) (nle rfl) (fun ι190 ρ190 Λ190 e_ι190 e_ρ190 e_Λ190 => ?_)
  refine x_widen 23 2619 (nle rfl) (nle rfl) ?_
  refine x_putrF 30 DX12_init_192 F12_77 rfl rfl rfl (by first | exact Or.inl ⟨_, rfl⟩ | exact Or.inr ⟨_, rfl⟩) rfl (fun ρ192 e_ρ192 => ?_)
  refine x_aload_n 0 DX12_init_195 rfl rfl ?_
  refine x_bipush 24 DX12_init_196 (by decide) ?_
  refine x_newa (t := 0) 64 24 DX12_init_198 rfl (Or.inl ⟨rfl, rfl⟩) gw1_47 (by subst_vars; simp [hf 64 (by decide) (by decide)]) (by decide) rfl (nle rfl) (nle rfl) (nle rfl) (fun ι198 ρ198 Λ198 e_ι198 e_ρ198 e_Λ198 => ?_)
  refine x_widen 24 2643 (nle rfl) (nle rfl) ?_
  refine x_putrF 31 DX12_init_200 F12_80 rfl rfl rfl (by first | exact Or.inl ⟨_, rfl⟩ | exact Or.inr ⟨_, rfl⟩) rfl (fun ρ200 e_ρ200 => ?_)
  refine x_aload_n 0 DX12_init_203 rfl rfl ?_
  refine x_bipush 9 DX12_init_204 (by decide) ?_
  refine x_newa (t := 0) 65 9 DX12_init_206 rfl (Or.inl ⟨rfl, rfl⟩) gw1_47 (by subst_vars; simp [hf 65 (by decide) (by decide)]) (by decide) rfl (nle rfl) (nle rfl) (nle rfl) (fun ι206 ρ206 Λ206 e_ι206 e_ρ206 e_Λ206 => ?_)
  refine x_widen 25 2652 (nle rfl) (nle rfl) ?_
  refine x_putrF 32 DX12_init_208 F12_83 rfl rfl rfl (by first | exact Or.inl ⟨_, rfl⟩ | exact Or.inr ⟨_, rfl⟩) rfl (fun ρ208 e_ρ208 => ?_)
  refine x_aload_n 0 DX12_init_211 rfl rfl ?_
  refine x_bipush 12 DX12_init_212 (by decide) ?_
  refine x_newa (t := 0) 66 12 DX12_init_214 rfl (Or.inl ⟨rfl, rfl⟩) gw1_47 (by subst_vars; simp [hf 66 (by decide) (by decide)]) (by decide) rfl (nle rfl) (nle rfl) (nle rfl) (fun ι214 ρ214 Λ214 e_ι214 e_ρ214 e_Λ214 => ?_)
  refine x_widen 26 2664 (nle rfl) (nle rfl) ?_
  refine x_putrF 33 DX12_init_216 F12_86 rfl rfl rfl (by first | exact Or.inl ⟨_, rfl⟩ | exact Or.inr ⟨_, rfl⟩) rfl (fun ρ216 e_ρ216 => ?_)
  refine x_aload_n 0 DX12_init_219 rfl rfl ?_
  refine x_bipush 12 DX12_init_220 (by decide) ?_
  refine x_newa (t := 0) 67 12 DX12_init_222 rfl (Or.inl ⟨rfl, rfl⟩) gw1_47 (by subst_vars; simp [hf 67 (by decide) (by decide)]) (by decide) rfl (nle rfl) (nle rfl) (nle rfl) (fun ι222 ρ222 Λ222 e_ι222 e_ρ222 e_Λ222 => ?_)
  refine x_widen 27 2676 (nle rfl) (nle rfl) ?_
  refine x_putrF 34 DX12_init_224 F12_89 rfl rfl rfl (by first | exact Or.inl ⟨_, rfl⟩ | exact Or.inr ⟨_, rfl⟩) rfl (fun ρ224 e_ρ224 => ?_)
  refine x_aload_n 0 DX12_init_227 rfl rfl ?_
  refine x_bipush 12 DX12_init_228 (by decide) ?_
  refine x_newa (t := 0) 68 12 DX12_init_230 rfl (Or.inl ⟨rfl, rfl⟩) gw1_47 (by subst_vars; simp [hf 68 (by decide) (by decide)]) (by decide) rfl (nle rfl) (nle rfl) (nle rfl) (fun ι230 ρ230 Λ230 e_ι230 e_ρ230 e_Λ230 => ?_)
  refine x_widen 28 2688 (nle rfl) (nle rfl) ?_
  refine x_putrF 35 DX12_init_232 F12_92 rfl rfl rfl (by first | exact Or.inl ⟨_, rfl⟩ | exact Or.inr ⟨_, rfl⟩) rfl (fun ρ232 e_ρ232 => ?_)
  refine x_aload_n 0 DX12_init_235 rfl rfl ?_
  refine x_bipush 12 DX12_init_236 (by decide) ?_
  refine x_newa (t := 0) 69 12 DX12_init_238 rfl (Or.inl ⟨rfl, rfl⟩) gw1_47 (by subst_vars; simp [hf 69 (by decide) (by decide)]) (by decide) rfl (nle rfl) (nle rfl) (nle rfl) (fun ι238 ρ238 Λ238 e_ι238 e_ρ238 e_Λ238 => ?_)
  refine x_widen 29 2700 (nle rfl) (nle rfl) ?_
  refine x_putrF 36 DX12_init_240 F12_95 rfl rfl rfl (by first | exact Or.inl ⟨_, rfl⟩ | exact Or.inr ⟨_, rfl⟩) rfl (fun ρ240 e_ρ240 => ?_)
  refine x_aload_n 0 DX12_init_243 rfl rfl ?_
  refine x_bipush 12 DX12_init_244 (by decide) ?_
  refine x_newa (t := 0) 70 12 DX12_init_246 rfl (Or.inl ⟨rfl, rfl⟩) gw1_47 (by subst_vars; simp [hf 70 (by decide) (by decide)]) (by decide) rfl (nle rfl) (nle rfl) (nle rfl) (fun ι246 ρ246 Λ246 e_ι246 e_ρ246 e_Λ246 => ?_)
  refine x_widen 30 2712 (nle rfl) (nle rfl) ?_
  refine x_putrF 37 DX12_init_248 F12_98 rfl rfl rfl (by first | exact Or.inl ⟨_, rfl⟩ | exact Or.inr ⟨_, rfl⟩) rfl (fun ρ248 e_ρ248 => ?_)
  refine x_aload_n 0 DX12_init_251 rfl rfl ?_
  refine x_bipush 8 DX12_init_252 (by decide) ?_
  refine x_newa (t := 0) 71 8 DX12_init_254 rfl (Or.inl ⟨rfl, rfl⟩) gw1_47 (by subst_vars; simp [hf 71 (by decide) (by decide)]) (by decide) rfl (nle rfl) (nle rfl) (nle rfl) (fun ι254 ρ254 Λ254 e_ι254 e_ρ254 e_Λ254 => ?_)
  refine x_widen 31 2720 (nle rfl) (nle rfl) ?_
  refine x_putrF 38 DX12_init_256 F12_101 rfl rfl rfl (by first | exact Or.inl ⟨_, rfl⟩ | exact Or.inr ⟨_, rfl⟩) rfl (fun ρ256 e_ρ256 => ?_)
  refine x_aload_n 0 DX12_init_259 rfl rfl ?_
  refine x_bipush 8 DX12_init_260 (by decide) ?_
  refine x_newa (t := 0) 72 8 DX12_init_262 rfl (Or.inl ⟨rfl, rfl⟩) gw1_47 (by subst_vars; simp [hf 72 (by decide) (by decide)]) (by decide) rfl (nle rfl) (nle rfl) (nle rfl) (fun ι262 ρ262 Λ262 e_ι262 e_ρ262 e_Λ262 => ?_)
  refine x_widen 32 2728 (nle rfl) (nle rfl) ?_
  refine x_putrF 39 DX12_init_264 F12_104 rfl rfl rfl (by first | exact Or.inl ⟨_, rfl⟩ | exact Or.inr ⟨_, rfl⟩) rfl (fun ρ264 e_ρ264 => ?_)
  refine x_aload_n 0 DX12_init_267 rfl rfl ?_
  refine x_bipush 9 DX12_init_268 (by decide) ?_
  refine x_newa (t := 0) 73 9 DX12_init_270 rfl (Or.inl ⟨rfl, rfl⟩) gw1_47 (by subst_vars; simp [hf 73 (by decide) (by decide)]) (by decide) rfl (nle rfl) (nle rfl) (nle rfl) (fun ι270 ρ270 Λ270 e_ι270 e_ρ270 e_Λ270 => ?_)
  refine x_widen 33 2737 (nle rfl) (nle rfl) ?_
  refine x_putrF 40 DX12_init_272 F12_107 rfl rfl rfl (by first | exact Or.inl ⟨_, rfl⟩ | exact Or.inr ⟨_, rfl⟩) rfl (fun ρ272 e_ρ272 => ?_)
  refine x_aload_n 0 DX12_init_275 rfl rfl ?_
  refine x_bipush 30 DX12_init_276 (by decide) ?_
  refine x_newa (t := 0) 74 30 DX12_init_278 rfl (Or.inl ⟨rfl, rfl⟩) gw1_47 (by subst_vars; simp [hf 74 (by decide) (by decide)]) (by decide) rfl (nle rfl) (nle rfl) (nle rfl) (fun ι278 ρ278 Λ278 e_ι278 e_ρ278 e_Λ278 => ?_)
  refine x_widen 34 2767 (nle rfl) (nle rfl) ?_
  refine x_putrF 42 DX12_init_280 F12_110 rfl rfl rfl (by first | exact Or.inl ⟨_, rfl⟩ | exact Or.inr ⟨_, rfl⟩) rfl (fun ρ280 e_ρ280 => ?_)
  refine x_aload_n 0 DX12_init_283 rfl rfl ?_
  refine x_bipush 30 DX12_init_284 (by decide) ?_
  refine x_newa (t := 0) 75 30 DX12_init_286 rfl (Or.inl ⟨rfl, rfl⟩) gw1_47 (by subst_vars; simp [hf 75 (by decide) (by decide)]) (by decide) rfl (nle rfl) (nle rfl) (nle rfl) (fun ι286 ρ286 Λ286 e_ι286 e_ρ286 e_Λ286 => ?_)
  refine x_widen 35 2797 (nle rfl) (nle rfl) ?_
  refine x_putrF 43 DX12_init_288 F12_113 rfl rfl rfl (by first | exact Or.inl ⟨_, rfl⟩ | exact Or.inr ⟨_, rfl⟩) rfl (fun ρ288 e_ρ288 => ?_)
  refine x_aload_n 0 DX12_init_291 rfl rfl ?_
  refine x_bipush 30 DX12_init_292 (by decide) ?_
  refine x_newa (t := 1) 76 30 DX12_init_294 rfl (Or.inr ⟨rfl, rfl⟩) gw1_234 (by subst_vars; simp [hf 76 (by decide) (by decide)]) (by decide) rfl (nle rfl) (nle rfl) (nle rfl) (fun ι294 ρ294 Λ294 e_ι294 e_ρ294 e_Λ294 => ?_)
  refine x_widen 36 2827 (nle rfl) (nle rfl) ?_
  refine x_putrF 44 DX12_init_296 F12_116 rfl rfl rfl (by first | exact Or.inl ⟨_, rfl⟩ | exact Or.inr ⟨_, rfl⟩) rfl (fun ρ296 e_ρ296 => ?_)
  refine x_iconst 0 DX12_init_299 (by decide) ?_
  refine x_istore_n 1 (lv' := [some (vR 40), some (vI 0)]) DX12_init_300 rfl ⟨nlt rfl, nlt rfl⟩ rfl ?_
  have ei : ι294 = mIniI0 ι := by subst_vars; rfl
  have er : ρ296 = mIniR ρ := by subst_vars; rfl
  have eL : Λ294 = mIniL Λ := by subst_vars; rfl
  rw [ei, er, eL]
  refine x_lv (lv' := [some (vR 40), some (vI (nI 0))]) (lvS (lvI nI_0.symm rfl)) ?_
  refine lpn (W := fun i => ∀ z1, z1 = mIni1 (mIniI0 ι) i → gX K none 2 36 2827 jX12_init 301 [some (vR 40), some (vI (nI i))] [] 36 2827 z1 (mIniR ρ) (mIniL Λ) _) 52 (fun i hi ihi z1 hz1 => ?_) 0 (by omega) ?_ _ (by rw [mIni1, fil_0, va_up_id])
  · refine x_iload_n 1 DX12_init_301 rfl rfl ?_
    refine x_bipush 52 DX12_init_302 (by decide) ?_
    refine x_icmp_ge 320 DX12_init_304 (by decide) (fun c_304 => False.elim (by rw [show (52 : Int32) = nI 52 from rfl, nI_le1 (by omega) (by omega)] at c_304; omega)) (fun c_304 => ?_)
    refine x_aload_n 0 DX12_init_307 rfl rfl ?_
    refine x_getr 1 (some 42) DX12_init_308 (Or.inr F12_13) rfl rfl rfl ?_
    refine x_iload_n 1 DX12_init_311 rfl rfl ?_
    refine x_iconst (-1) DX12_init_312 (by decide) ?_
    refine x_iast i (nI_cl1 (by omega)) DX12_init_313 rfl (by rw [show (mIniL Λ).2 42 = 52 from rfl]; exact gIn_nI (by omega) (by omega)) (fun ι313 e_ι313 => ?_)
    refine x_iinc ((nI i) + 1) (lv' := [some (vR 40), some (vI ((nI i) + 1))]) DX12_init_314 rfl rfl (nlt rfl) rfl ?_
    refine x_goto 301 DX12_init_317 (by decide) ?_
    refine x_lv (lv' := [some (vR 40), some (vI (nI (i + 1)))]) (lvS (lvI (nI_1 i) rfl)) ?_
    exact ihi _ (by rw [e_ι313, hz1]; exact up2_fil (mIniI0 ι) 42 i (fun _ => -1) (mIniI0 ι 42))
  · intro z1 hz1
    refine x_iload_n 1 DX12_init_301 rfl rfl ?_
    refine x_bipush 52 DX12_init_302 (by decide) ?_
    refine x_icmp_ge 320 DX12_init_304 (by decide) (fun c_304 => ?_) (fun c_304 => False.elim (c_304 (by rw [show (52 : Int32) = nI 52 from rfl]; exact nI_le (by omega) (by omega))))
    refine x_iconst 0 DX12_init_320 (by decide) ?_
    refine x_istore_n 1 (lv' := [some (vR 40), some (vI 0)]) DX12_init_321 rfl ⟨nlt rfl, nlt rfl⟩ rfl ?_
    refine x_lv (lv' := [some (vR 40), some (vI (nI 0))]) (lvS (lvI nI_0.symm rfl)) ?_
    refine lpn (W := fun i => ∀ z2, z2 = mIni2 z1 i → gX K none 2 36 2827 jX12_init 322 [some (vR 40), some (vI (nI i))] [] 36 2827 z2 (mIniR ρ) (mIniL Λ) _) 6 (fun i hi ihi z2 hz2 => ?_) 0 (by omega) ?_ _ (by rw [mIni2, fil_0, va_up_id])
    · refine x_iload_n 1 DX12_init_322 rfl rfl ?_
      refine x_bipush 6 DX12_init_323 (by decide) ?_
      refine x_icmp_ge 342 DX12_init_325 (by decide) (fun c_325 => False.elim (by rw [show (6 : Int32) = nI 6 from rfl, nI_le1 (by omega) (by omega)] at c_325; omega)) (fun c_325 => ?_)
      refine x_aload_n 0 DX12_init_328 rfl rfl ?_
      refine x_getr 26 (some 59) DX12_init_329 (Or.inr F12_65) rfl rfl rfl ?_
      refine x_iload_n 1 DX12_init_332 rfl rfl ?_
      refine x_bipush (-9) DX12_init_333 (by decide) ?_
      refine x_iast i (nI_cl1 (by omega)) DX12_init_335 rfl (by rw [show (mIniL Λ).2 59 = 6 from rfl]; exact gIn_nI (by omega) (by omega)) (fun ι335 e_ι335 => ?_)
      refine x_iinc ((nI i) + 1) (lv' := [some (vR 40), some (vI ((nI i) + 1))]) DX12_init_336 rfl rfl (nlt rfl) rfl ?_
      refine x_goto 322 DX12_init_339 (by decide) ?_
      refine x_lv (lv' := [some (vR 40), some (vI (nI (i + 1)))]) (lvS (lvI (nI_1 i) rfl)) ?_
      exact ihi _ (by rw [e_ι335, hz2]; exact up2_fil z1 59 i (fun _ => -9) (z1 59))
    · intro z2 hz2
      refine x_iload_n 1 DX12_init_322 rfl rfl ?_
      refine x_bipush 6 DX12_init_323 (by decide) ?_
      refine x_icmp_ge 342 DX12_init_325 (by decide) (fun c_325 => ?_) (fun c_325 => False.elim (c_325 (by rw [show (6 : Int32) = nI 6 from rfl]; exact nI_le (by omega) (by omega))))
      exact x_return DX12_init_342 rfl ⟨rfl, by rw [hz2, hz1]; rfl, rfl, rfl⟩
