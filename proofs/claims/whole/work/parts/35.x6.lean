/-! the class, VI: laying -/
theorem x_Rope (K : gK) (n k s y : Int32) (ι : gIm) (ρ : gRm) (Λ : gLm) (r : Nat) (hr : r < 200) : gCe K 2 0 0 jX6_init [vR (200 + r), vI n, vI k, vI s, vI y, vR (400 + r), vR (600 + r)] ι ρ Λ none (up2 (up2 (up2 (up2 (up2 ι (200 + r) 8 (-9)) (200 + r) 0 n) (200 + r) 1 k) (200 + r) 2 s) (200 + r) 3 y) (up2 (up2 ρ (200 + r) 4 (some (400 + r))) (200 + r) 5 (some (600 + r))) Λ := by
  refine gC_of (by decide) (nle rfl) ?_
  refine x_aload_n 0 DX6_init_0 rfl rfl ?_
  refine x_objInit DX6_init_1 gw3_26 gw1_23 gw1_24 (nle rfl) (nle rfl) ?_
  refine x_aload_n 0 DX6_init_4 rfl rfl ?_
  refine x_bipush (-9) DX6_init_5 (by decide) ?_
  refine x_puti 8 DX6_init_7 F6_9 (shp_rope (by omega)) (Or.inl rfl) rfl (fun ι7 e_ι7 => ?_)
  refine x_aload_n 0 DX6_init_10 rfl rfl ?_
  refine x_iload_n 1 DX6_init_11 rfl rfl ?_
  refine x_putiF 0 DX6_init_12 F6_15 rfl rfl (shp_rope (by omega)) (Or.inl rfl) rfl (fun ι12 e_ι12 => ?_)
  refine x_aload_n 0 DX6_init_15 rfl rfl ?_
  refine x_iload_n 2 DX6_init_16 rfl rfl ?_
  refine x_putiF 1 DX6_init_17 F6_18 rfl rfl (shp_rope (by omega)) (Or.inl rfl) rfl (fun ι17 e_ι17 => ?_)
  refine x_aload_n 0 DX6_init_20 rfl rfl ?_
  refine x_iload_n 3 DX6_init_21 rfl rfl ?_
  refine x_putiF 2 DX6_init_22 F6_21 rfl rfl (shp_rope (by omega)) (Or.inl rfl) rfl (fun ι22 e_ι22 => ?_)
  refine x_aload_n 0 DX6_init_25 rfl rfl ?_
  refine x_iload DX6_init_26 rfl ?_
  refine x_putiF 3 DX6_init_28 F6_24 rfl rfl (shp_rope (by omega)) (Or.inl rfl) rfl (fun ι28 e_ι28 => ?_)
  refine x_aload_n 0 DX6_init_31 rfl rfl ?_
  refine x_aload DX6_init_32 rfl ?_
  refine x_putrF 4 DX6_init_34 F6_27 rfl rfl (shp_rope (by omega)) (by first | exact Or.inl ⟨_, rfl⟩ | exact Or.inr ⟨_, rfl⟩) rfl (fun ρ34 e_ρ34 => ?_)
  refine x_aload_n 0 DX6_init_37 rfl rfl ?_
  refine x_aload DX6_init_38 rfl ?_
  refine x_putrF 5 DX6_init_40 F6_31 rfl rfl (shp_rope (by omega)) (by first | exact Or.inl ⟨_, rfl⟩ | exact Or.inr ⟨_, rfl⟩) rfl (fun ρ40 e_ρ40 => ?_)
  exact x_return DX6_init_43 rfl ⟨rfl, by subst_vars; rfl, by subst_vars; rfl, rfl⟩
theorem x_keepR (K : gK)  (ι : gIm) (ρ : gRm) (Λ : gLm) (hF : gFix ρ Λ) (nr : Nat) (hR : ι 7 1 = nI nr) (hr : nr < 200) : gCe K 2 0 0 jX7_keep [vR 7, vR (200 + nr)] ι ρ Λ (some (vI (nI nr))) (up2 ι 7 1 (nI nr + 1)) (up2 ρ 8 nr (some (200 + nr))) Λ := by
  refine gC_of (by decide) (nle rfl) ?_
  refine x_aload_n 0 DX7_keep_0 rfl rfl ?_
  have gf := x_isFull K ι ρ Λ
  rw [show ι 7 1 = (nI nr) from hR] at gf
  refine x_Ve (ci := 7) (av := []) (rest := []) (st' := [vI (b2i (200 ≤ (nI nr)))]) 0 0 DX7_keep_1 L7_75 rfl rfl rfl rfl rfl ⟨nle rfl, nle rfl, nle rfl⟩ ⟨rfl, nle rfl⟩ ⟨rfl, nle rfl⟩ (gf) rfl ?_
  refine x_if_eq_b 10 DX7_keep_4 (by decide) (fun c_4 => ?_) (fun c_4 => False.elim ((show ¬ nI 200 ≤ nI nr from nI_ge hr (by omega)) c_4))
  refine x_aload_n 0 DX7_keep_10 rfl rfl ?_
  refine x_getr 0 (some 8) DX7_keep_11 (Or.inr F7_11) rfl rfl (hF.1 7 0 8 rfl) ?_
  refine x_aload_n 0 DX7_keep_14 rfl rfl ?_
  refine x_geti (v := (nI nr)) 1 DX7_keep_15 (Or.inl F7_17) rfl rfl hR ?_
  refine x_aload_n 1 DX7_keep_18 rfl rfl ?_
  refine x_aast (t := 4) (ci := 6) nr (nI_cl1 (by omega)) DX7_keep_19 rfl ⟨by decide, by decide⟩ (gIn.fx hF (c := 8) (n := 200) rfl (gIn_nI (by omega) (by omega))) (shp_rope (by omega)) rfl (fun ρ19 e_ρ19 => ?_)
  refine x_aload_n 0 DX7_keep_20 rfl rfl ?_
  refine x_dup DX7_keep_21 ?_
  refine x_geti (v := (nI nr)) 1 DX7_keep_22 (Or.inl F7_17) rfl rfl hR ?_
  refine x_dup_x1 DX7_keep_25 ?_
  refine x_iconst 1 DX7_keep_26 (by decide) ?_
  refine x_iadd DX7_keep_27 ?_
  refine x_puti 1 DX7_keep_28 F7_17 rfl (Or.inl rfl) rfl (fun ι28 e_ι28 => ?_)
  exact x_ireturn DX7_keep_31 rfl ⟨rfl, by subst_vars; rfl, by subst_vars; rfl, rfl⟩
theorem x_twist (K : gK) (year : Int32) (ι : gIm) (ρ : gRm) (Λ : gLm) (hF : gFix ρ Λ) (nr : Nat) (hR : ι 7 1 = nI nr) (hr : nr < 200) (a b c : Nat) (ha : a < 24) (hb : b < 24) (hc : c < 24) (hf4 : 400 + nr ∉ Λ.1) (hf6 : 600 + nr ∉ Λ.1) (hf2 : 200 + nr ∉ Λ.1) : gCe K 4 3 15 jX7_twist [vR 7, vR (100 + a), vR (100 + b), vR (100 + c), vI year] ι ρ Λ (some (vI (nI nr))) (xSmallI ι nr a b c year) (xRopeR ρ nr) (xRopeL Λ nr 3) := by
  refine gC_of (by decide) (nle rfl) ?_
  refine x_iconst 3 DX7_twist_0 (by decide) ?_
  refine x_newa (t := 0) (400 + nr) 3 DX7_twist_1 (shp_own (by omega)) (Or.inl ⟨rfl, rfl⟩) gw1_47 hf4 (by decide) rfl (nle rfl) (nle rfl) (nle rfl) (fun ι1 ρ1 Λ1 e_ι1 e_ρ1 e_Λ1 => ?_)
  refine x_widen 1 3 (nle rfl) (nle rfl) ?_
  have hF1 := gFix_new hF (c := 400 + nr) (by omega) e_ρ1 e_Λ1
  refine x_dup DX7_twist_3 ?_
  refine x_iconst 0 DX7_twist_4 (by decide) ?_
  refine x_aload_n 1 DX7_twist_5 rfl rfl ?_
  refine x_geti (v := (ι (100 + a) 0)) 0 DX7_twist_6 (Or.inr F7_21) (shp_house (by omega)) rfl (rdn1 e_ι1 (by omega)) ?_
  refine x_iast 0 rfl DX7_twist_9 (shp_own (by omega)) (by rw [ln_new e_Λ1]; exact ⟨by decide, by decide⟩) (fun ι9 e_ι9 => ?_)
  refine x_dup DX7_twist_10 ?_
  refine x_iconst 1 DX7_twist_11 (by decide) ?_
  refine x_aload_n 2 DX7_twist_12 rfl rfl ?_
  refine x_geti (v := (ι (100 + b) 0)) 0 DX7_twist_13 (Or.inr F7_21) (shp_house (by omega)) rfl ((rd1 e_ι9 (by omega)).trans (rdn1 e_ι1 (by omega))) ?_
  refine x_iast 1 rfl DX7_twist_16 (shp_own (by omega)) (by rw [ln_new e_Λ1]; exact ⟨by decide, by decide⟩) (fun ι16 e_ι16 => ?_)
  refine x_dup DX7_twist_17 ?_
  refine x_iconst 2 DX7_twist_18 (by decide) ?_
  refine x_aload_n 3 DX7_twist_19 rfl rfl ?_
  refine x_geti (v := (ι (100 + c) 0)) 0 DX7_twist_20 (Or.inr F7_21) (shp_house (by omega)) rfl (((rd1 e_ι16 (by omega)).trans (rd1 e_ι9 (by omega))).trans (rdn1 e_ι1 (by omega))) ?_
  refine x_iast 2 rfl DX7_twist_23 (shp_own (by omega)) (by rw [ln_new e_Λ1]; exact ⟨by decide, by decide⟩) (fun ι23 e_ι23 => ?_)
  refine x_astore (lv' := [some (vR 7), some (vR (100 + a)), some (vR (100 + b)), some (vR (100 + c)), some (vI year), some (vR (400 + nr)), none, none]) DX7_twist_24 ⟨nlt rfl, nlt rfl⟩ rfl ?_
  refine x_iconst 3 DX7_twist_26 (by decide) ?_
  refine x_newa (t := 0) (600 + nr) 3 DX7_twist_27 (shp_car (by omega)) (Or.inl ⟨rfl, rfl⟩) gw1_47 (fr_new e_Λ1 hf6 (by omega)) (by decide) rfl (nle rfl) (nle rfl) (nle rfl) (fun ι27 ρ27 Λ27 e_ι27 e_ρ27 e_Λ27 => ?_)
  refine x_widen 2 6 (nle rfl) (nle rfl) ?_
  have hF27 := gFix_new hF1 (c := 600 + nr) (by omega) e_ρ27 e_Λ27
  refine x_dup DX7_twist_29 ?_
  refine x_iconst 0 DX7_twist_30 (by decide) ?_
  refine x_aload_n 1 DX7_twist_31 rfl rfl ?_
  refine x_geti (v := (ι (100 + a) 3)) 3 DX7_twist_32 (Or.inl F7_26) (shp_house (by omega)) rfl (((((rdn1 e_ι27 (by omega)).trans (rd1 e_ι23 (by omega))).trans (rd1 e_ι16 (by omega))).trans (rd1 e_ι9 (by omega))).trans (rdn1 e_ι1 (by omega))) ?_
  refine x_iast 0 rfl DX7_twist_35 (shp_car (by omega)) (by rw [ln_new e_Λ27]; exact ⟨by decide, by decide⟩) (fun ι35 e_ι35 => ?_)
  refine x_dup DX7_twist_36 ?_
  refine x_iconst 1 DX7_twist_37 (by decide) ?_
  refine x_aload_n 2 DX7_twist_38 rfl rfl ?_
  refine x_geti (v := (ι (100 + b) 3)) 3 DX7_twist_39 (Or.inl F7_26) (shp_house (by omega)) rfl ((((((rd1 e_ι35 (by omega)).trans (rdn1 e_ι27 (by omega))).trans (rd1 e_ι23 (by omega))).trans (rd1 e_ι16 (by omega))).trans (rd1 e_ι9 (by omega))).trans (rdn1 e_ι1 (by omega))) ?_
  refine x_iast 1 rfl DX7_twist_42 (shp_car (by omega)) (by rw [ln_new e_Λ27]; exact ⟨by decide, by decide⟩) (fun ι42 e_ι42 => ?_)
  refine x_dup DX7_twist_43 ?_
  refine x_iconst 2 DX7_twist_44 (by decide) ?_
  refine x_aload_n 3 DX7_twist_45 rfl rfl ?_
  refine x_geti (v := (ι (100 + c) 3)) 3 DX7_twist_46 (Or.inl F7_26) (shp_house (by omega)) rfl (((((((rd1 e_ι42 (by omega)).trans (rd1 e_ι35 (by omega))).trans (rdn1 e_ι27 (by omega))).trans (rd1 e_ι23 (by omega))).trans (rd1 e_ι16 (by omega))).trans (rd1 e_ι9 (by omega))).trans (rdn1 e_ι1 (by omega))) ?_
  refine x_iast 2 rfl DX7_twist_49 (shp_car (by omega)) (by rw [ln_new e_Λ27]; exact ⟨by decide, by decide⟩) (fun ι49 e_ι49 => ?_)
  refine x_astore (lv' := [some (vR 7), some (vR (100 + a)), some (vR (100 + b)), some (vR (100 + c)), some (vI year), some (vR (400 + nr)), some (vR (600 + nr)), none]) DX7_twist_50 ⟨nlt rfl, nlt rfl⟩ rfl ?_
  refine x_aload_n 1 DX7_twist_52 rfl rfl ?_
  refine x_dup DX7_twist_53 ?_
  refine x_geti (v := (ι (100 + a) 7)) 7 DX7_twist_54 (Or.inl F7_29) (shp_house (by omega)) rfl ((((((((rd1 e_ι49 (by omega)).trans (rd1 e_ι42 (by omega))).trans (rd1 e_ι35 (by omega))).trans (rdn1 e_ι27 (by omega))).trans (rd1 e_ι23 (by omega))).trans (rd1 e_ι16 (by omega))).trans (rd1 e_ι9 (by omega))).trans (rdn1 e_ι1 (by omega))) ?_
  refine x_iconst 1 DX7_twist_57 (by decide) ?_
  refine x_iadd DX7_twist_58 ?_
  refine x_puti 7 DX7_twist_59 F7_29 (shp_house (by omega)) (Or.inl rfl) rfl (fun ι59 e_ι59 => ?_)
  refine x_aload_n 2 DX7_twist_62 rfl rfl ?_
  refine x_dup DX7_twist_63 ?_
  refine x_geti (v := (ι59 (100 + b) 7)) 7 DX7_twist_64 (Or.inl F7_29) (shp_house (by omega)) rfl rfl ?_
  refine x_iconst 1 DX7_twist_67 (by decide) ?_
  refine x_iadd DX7_twist_68 ?_
  refine x_puti 7 DX7_twist_69 F7_29 (shp_house (by omega)) (Or.inl rfl) rfl (fun ι69 e_ι69 => ?_)
  refine x_aload_n 3 DX7_twist_72 rfl rfl ?_
  refine x_dup DX7_twist_73 ?_
  refine x_geti (v := (ι69 (100 + c) 7)) 7 DX7_twist_74 (Or.inl F7_29) (shp_house (by omega)) rfl rfl ?_
  refine x_iconst 1 DX7_twist_77 (by decide) ?_
  refine x_iadd DX7_twist_78 ?_
  refine x_puti 7 DX7_twist_79 F7_29 (shp_house (by omega)) (Or.inl rfl) rfl (fun ι79 e_ι79 => ?_)
  refine x_aload_n 1 DX7_twist_82 rfl rfl ?_
  refine x_geti (v := (ι (100 + a) 3)) 3 DX7_twist_83 (Or.inl F7_26) (shp_house (by omega)) rfl (((((((((((rd2 e_ι79 (by decide)).trans (rd2 e_ι69 (by decide))).trans (rd2 e_ι59 (by decide))).trans (rd1 e_ι49 (by omega))).trans (rd1 e_ι42 (by omega))).trans (rd1 e_ι35 (by omega))).trans (rdn1 e_ι27 (by omega))).trans (rd1 e_ι23 (by omega))).trans (rd1 e_ι16 (by omega))).trans (rd1 e_ι9 (by omega))).trans (rdn1 e_ι1 (by omega))) ?_
  refine x_aload_n 2 DX7_twist_86 rfl rfl ?_
  refine x_geti (v := (ι (100 + b) 3)) 3 DX7_twist_87 (Or.inl F7_26) (shp_house (by omega)) rfl (((((((((((rd2 e_ι79 (by decide)).trans (rd2 e_ι69 (by decide))).trans (rd2 e_ι59 (by decide))).trans (rd1 e_ι49 (by omega))).trans (rd1 e_ι42 (by omega))).trans (rd1 e_ι35 (by omega))).trans (rdn1 e_ι27 (by omega))).trans (rd1 e_ι23 (by omega))).trans (rd1 e_ι16 (by omega))).trans (rd1 e_ι9 (by omega))).trans (rdn1 e_ι1 (by omega))) ?_
  refine x_aload_n 3 DX7_twist_90 rfl rfl ?_
  refine x_geti (v := (ι (100 + c) 3)) 3 DX7_twist_91 (Or.inl F7_26) (shp_house (by omega)) rfl (((((((((((rd2 e_ι79 (by decide)).trans (rd2 e_ι69 (by decide))).trans (rd2 e_ι59 (by decide))).trans (rd1 e_ι49 (by omega))).trans (rd1 e_ι42 (by omega))).trans (rd1 e_ι35 (by omega))).trans (rdn1 e_ι27 (by omega))).trans (rd1 e_ι23 (by omega))).trans (rd1 e_ι16 (by omega))).trans (rd1 e_ι9 (by omega))).trans (rdn1 e_ι1 (by omega))) ?_
  refine x_Se (av := [vI (ι (100 + b) 3), vI (ι (100 + c) 3)]) (rest := [vI (ι (100 + a) 3)]) (st' := [vI (imin (ι (100 + b) 3) (ι (100 + c) 3)), vI (ι (100 + a) 3)]) 2 6 DX7_twist_94 L7_32 rfl rfl ⟨nle rfl, nle rfl, nle rfl⟩ ⟨rfl, nle rfl⟩ ⟨rfl, nle rfl⟩ (j_min K (ι (100 + b) 3) (ι (100 + c) 3) ι79 ρ27 Λ27) rfl ?_
  refine x_Se (av := [vI (ι (100 + a) 3), vI (imin (ι (100 + b) 3) (ι (100 + c) 3))]) (rest := []) (st' := [vI (imin (ι (100 + a) 3) (imin (ι (100 + b) 3) (ι (100 + c) 3)))]) 2 6 DX7_twist_97 L7_32 rfl rfl ⟨nle rfl, nle rfl, nle rfl⟩ ⟨rfl, nle rfl⟩ ⟨rfl, nle rfl⟩ (j_min K (ι (100 + a) 3) (imin (ι (100 + b) 3) (ι (100 + c) 3)) ι79 ρ27 Λ27) rfl ?_
  refine x_istore (lv' := [some (vR 7), some (vR (100 + a)), some (vR (100 + b)), some (vR (100 + c)), some (vI year), some (vR (400 + nr)), some (vR (600 + nr)), some (vI (imin (ι (100 + a) 3) (imin (ι (100 + b) 3) (ι (100 + c) 3))))]) DX7_twist_100 ⟨nlt rfl, nlt rfl⟩ rfl ?_
  refine x_aload_n 0 DX7_twist_102 rfl rfl ?_
  refine x_new (ci := 6) (200 + nr) 9 DX7_twist_103 (shp_rope (by omega)) ("GrassBridge$Rope", gf6, 9) rfl rfl gw1_77 gw3_22 gw1_13 (fr_new e_Λ27 (fr_new e_Λ1 hf2 (by omega)) (by omega)) (nle rfl) (nle rfl) (fun ι103 ρ103 Λ103 e_ι103 e_ρ103 e_Λ103 => ?_)
  refine x_widen 3 15 (nle rfl) (nle rfl) ?_
  have hF103 := gFix_new hF27 (c := 200 + nr) (by omega) e_ρ103 e_Λ103
  refine x_dup DX7_twist_106 ?_
  refine x_aload_n 0 DX7_twist_107 rfl rfl ?_
  refine x_geti (v := (nI nr)) 1 DX7_twist_108 (Or.inl F7_17) rfl rfl (((((((((((((rdn1 e_ι103 (by omega)).trans (rd1 e_ι79 (by omega))).trans (rd1 e_ι69 (by omega))).trans (rd1 e_ι59 (by omega))).trans (rd1 e_ι49 (by omega))).trans (rd1 e_ι42 (by omega))).trans (rd1 e_ι35 (by omega))).trans (rdn1 e_ι27 (by omega))).trans (rd1 e_ι23 (by omega))).trans (rd1 e_ι16 (by omega))).trans (rd1 e_ι9 (by omega))).trans (rdn1 e_ι1 (by omega))).trans hR) ?_
  refine x_iconst 0 DX7_twist_111 (by decide) ?_
  refine x_iload DX7_twist_112 rfl ?_
  refine x_iload DX7_twist_114 rfl ?_
  refine x_aload DX7_twist_116 rfl ?_
  refine x_aload DX7_twist_118 rfl ?_
  refine x_Ie (av := [vI (nI nr), vI 0, vI (imin (ι (100 + a) 3) (imin (ι (100 + b) 3) (ι (100 + c) 3))), vI year, vR (400 + nr), vR (600 + nr)]) (rest := [vR (200 + nr), vR 7]) (st' := [vR (200 + nr), vR 7]) 3 15 DX7_twist_120 L7_38 rfl rfl ⟨nle rfl, nle rfl, nle rfl⟩ ⟨rfl, nle rfl⟩ ⟨rfl, nle rfl⟩ (x_Rope K (nI nr) 0 (imin (ι (100 + a) 3) (imin (ι (100 + b) 3) (ι (100 + c) 3))) year ι103 ρ103 Λ103 nr (by omega)) rfl ?_
  refine x_nmι (fun ι120 e_ι120 => ?_)
  refine x_nmρ (fun ρ120 e_ρ120 => ?_)
  have hFz := gFix_up (gFix_up hF103 (c := 200 + nr) (k := 4) (o := some (400 + nr)) (gst_none (by omega)) rfl) (c := 200 + nr) (k := 5) (o := some (600 + nr)) (gst_none (by omega)) rfl
  rw [← e_ρ120] at hFz
  refine x_Ve (ci := 7) (av := [vR (200 + nr)]) (rest := []) (st' := [vI (nI nr)]) 3 15 DX7_twist_123 L7_41 rfl rfl rfl rfl rfl ⟨nle rfl, nle rfl, nle rfl⟩ ⟨rfl, nle rfl⟩ ⟨rfl, nle rfl⟩ (x_keepR K ι120 ρ120 Λ103 hFz nr (by rw [e_ι120, up2_ne _ _ _ (by omega), up2_ne _ _ _ (by omega), up2_ne _ _ _ (by omega), up2_ne _ _ _ (by omega), up2_ne _ _ _ (by omega), e_ι103, va_up_ne _ _ (by omega), e_ι79, up2_ne _ _ _ (by omega), e_ι69, up2_ne _ _ _ (by omega), e_ι59, up2_ne _ _ _ (by omega), e_ι49, up2_ne _ _ _ (by omega), e_ι42, up2_ne _ _ _ (by omega), e_ι35, up2_ne _ _ _ (by omega), e_ι27, va_up_ne _ _ (by omega), e_ι23, up2_ne _ _ _ (by omega), e_ι16, up2_ne _ _ _ (by omega), e_ι9, up2_ne _ _ _ (by omega), e_ι1, va_up_ne _ _ (by omega)]; exact hR) hr) rfl ?_
  refine x_nmι (fun ι123 e_ι123 => ?_)
  refine x_nmρ (fun ρ123 e_ρ123 => ?_)
  exact x_ireturn DX7_twist_126 rfl ⟨rfl, by subst_vars; simp only [xSmallI, xRopeI, inc, row3, up2_va], by subst_vars; rfl, by subst_vars; rfl⟩
theorem x_joined (K : gK)  (ι : gIm) (ρ : gRm) (Λ : gLm) (hF : gFix ρ Λ) (L : Nat) (hL : L ≤ 9) (ca cb cc cd : Nat) (hsa : shp ca = 13) (hsb : shp cb = 13) (hsc : shp cc = 13) (hsd : shp cd = 13) (hla : Λ.2 ca = L) (hlb : Λ.2 cb = L) (hlc : Λ.2 cc = L) (hfr : cd ∉ Λ.1) (hna : ca ≠ cd) (hnb : cb ≠ cd) (hnc : cc ≠ cd) (hcd : 77 ≤ cd) : gCe K 1 1 27 jX7_joined [vR ca, vR cb, vR cc] ι ρ Λ (some (vR cd)) (va_up ι cd (jn L (ι ca) (ι cb) (ι cc))) (va_up ρ cd (fun _ => none)) (Λ.1 ++ [cd], va_up Λ.2 cd (3 * L)) := by
  refine gC_of (by decide) (nle rfl) ?_
  refine x_aload_n 0 DX7_joined_0 rfl rfl ?_
  refine x_alen (t := 0) (nI L) DX7_joined_1 hsa (by decide) (by rw [hla]; rfl) ?_
  refine x_aload_n 1 DX7_joined_2 rfl rfl ?_
  refine x_alen (t := 0) (nI L) DX7_joined_3 hsb (by decide) (by rw [hlb]; rfl) ?_
  refine x_iadd DX7_joined_4 ?_
  refine x_aload_n 2 DX7_joined_5 rfl rfl ?_
  refine x_alen (t := 0) (nI L) DX7_joined_6 hsc (by decide) (by rw [hlc]; rfl) ?_
  refine x_iadd DX7_joined_7 ?_
  refine x_newa (t := 0) cd (3 * L) DX7_joined_8 hsd (Or.inl ⟨rfl, rfl⟩) gw1_47 hfr (by rw [nI_add, nI_add]; exact nI_pos (by omega)) (by rw [nI_add, nI_add, nI_cl1 (by omega)]; omega) (by omega) (nle rfl) (by omega) (fun ι8 ρ8 Λ8 e_ι8 e_ρ8 e_Λ8 => ?_)
  refine x_widen 1 27 (nle rfl) (by omega) ?_
  have hF8 := gFix_new hF (c := cd) (by omega) e_ρ8 e_Λ8
  refine x_astore_n 3 (lv' := [some (vR ca), some (vR cb), some (vR cc), some (vR cd)]) DX7_joined_10 rfl ⟨nlt rfl, nlt rfl⟩ rfl ?_
  refine x_aload_n 0 DX7_joined_11 rfl rfl ?_
  refine x_iconst 0 DX7_joined_12 (by decide) ?_
  refine x_aload_n 3 DX7_joined_13 rfl rfl ?_
  refine x_iconst 0 DX7_joined_14 (by decide) ?_
  refine x_aload_n 0 DX7_joined_15 rfl rfl ?_
  refine x_alen (t := 0) (nI L) DX7_joined_16 hsa (by decide) (by rw [ln_old e_Λ8 hna, hla]; rfl) ?_
  refine x_copy DX7_joined_17 gw3_93 gw3_95 gw3_94 gw1_14 hsa hsd (by decide) (by decide) (nI_pos (by omega)) (by rw [ln_old e_Λ8 hna, hla]; simp only [show Int32.toNatClampNeg 0 = 0 from rfl, nI_cl1 (show L < 1000000 by omega)]; omega) (by rw [ln_new e_Λ8]; simp only [show Int32.toNatClampNeg 0 = 0 from rfl, nI_cl1 (show L < 1000000 by omega), nI_add, nI_cl1 (show L + L < 1000000 by omega)]; omega) (nle rfl) (nle rfl) (fun ι17 e_ι17 => ?_)
  refine x_aload_n 1 DX7_joined_20 rfl rfl ?_
  refine x_iconst 0 DX7_joined_21 (by decide) ?_
  refine x_aload_n 3 DX7_joined_22 rfl rfl ?_
  refine x_aload_n 0 DX7_joined_23 rfl rfl ?_
  refine x_alen (t := 0) (nI L) DX7_joined_24 hsa (by decide) (by rw [ln_old e_Λ8 hna, hla]; rfl) ?_
  refine x_aload_n 1 DX7_joined_25 rfl rfl ?_
  refine x_alen (t := 0) (nI L) DX7_joined_26 hsb (by decide) (by rw [ln_old e_Λ8 hnb, hlb]; rfl) ?_
  refine x_copy DX7_joined_27 gw3_93 gw3_95 gw3_94 gw1_14 hsb hsd (by decide) (nI_pos (by omega)) (nI_pos (by omega)) (by rw [ln_old e_Λ8 hnb, hlb]; simp only [show Int32.toNatClampNeg 0 = 0 from rfl, nI_cl1 (show L < 1000000 by omega)]; omega) (by rw [ln_new e_Λ8]; simp only [show Int32.toNatClampNeg 0 = 0 from rfl, nI_cl1 (show L < 1000000 by omega), nI_add, nI_cl1 (show L + L < 1000000 by omega)]; omega) (nle rfl) (nle rfl) (fun ι27 e_ι27 => ?_)
  refine x_aload_n 2 DX7_joined_30 rfl rfl ?_
  refine x_iconst 0 DX7_joined_31 (by decide) ?_
  refine x_aload_n 3 DX7_joined_32 rfl rfl ?_
  refine x_aload_n 0 DX7_joined_33 rfl rfl ?_
  refine x_alen (t := 0) (nI L) DX7_joined_34 hsa (by decide) (by rw [ln_old e_Λ8 hna, hla]; rfl) ?_
  refine x_aload_n 1 DX7_joined_35 rfl rfl ?_
  refine x_alen (t := 0) (nI L) DX7_joined_36 hsb (by decide) (by rw [ln_old e_Λ8 hnb, hlb]; rfl) ?_
  refine x_iadd DX7_joined_37 ?_
  refine x_aload_n 2 DX7_joined_38 rfl rfl ?_
  refine x_alen (t := 0) (nI L) DX7_joined_39 hsc (by decide) (by rw [ln_old e_Λ8 hnc, hlc]; rfl) ?_
  refine x_copy DX7_joined_40 gw3_93 gw3_95 gw3_94 gw1_14 hsc hsd (by decide) (by rw [nI_add]; exact nI_pos (by omega)) (nI_pos (by omega)) (by rw [ln_old e_Λ8 hnc, hlc]; simp only [show Int32.toNatClampNeg 0 = 0 from rfl, nI_cl1 (show L < 1000000 by omega)]; omega) (by rw [ln_new e_Λ8]; simp only [show Int32.toNatClampNeg 0 = 0 from rfl, nI_cl1 (show L < 1000000 by omega), nI_add, nI_cl1 (show L + L < 1000000 by omega)]; omega) (nle rfl) (nle rfl) (fun ι40 e_ι40 => ?_)
  refine x_aload_n 3 DX7_joined_43 rfl rfl ?_
  exact x_areturn DX7_joined_44 ⟨_, rfl, by first | exact Or.inl ⟨_, rfl⟩ | exact Or.inr ⟨_, rfl⟩⟩ ⟨rfl, by rw [e_ι40, e_ι27, e_ι17, e_ι8]; simp only [va_up_self, va_up_up, va_up_ne _ _ hna, va_up_ne _ _ hnb, va_up_ne _ _ hnc, show Int32.toNatClampNeg 0 = 0 from rfl, nI_add, nI_cl1 (show L < 1000000 by omega), nI_cl1 (show L + L < 1000000 by omega)]; rw [← jn_cpy, Nat.two_mul], e_ρ8, by rw [e_Λ8]⟩
