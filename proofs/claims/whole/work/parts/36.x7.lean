/-! the class, VII: small -/
theorem x_join (K : gK) (year : Int32) (ι : gIm) (ρ : gRm) (Λ : gLm) (hF : gFix ρ Λ) (nr : Nat) (hR : ι 7 1 = nI nr) (hr : nr < 200) (L : Nat) (hL : L ≤ 9) (a b c : Nat) (ha : a < nr) (hb : b < nr) (hc : c < nr) (hoa : ρ (200 + a) 4 = some (400 + a) ∧ ρ (200 + a) 5 = some (600 + a)) (hla : Λ.2 (400 + a) = L ∧ Λ.2 (600 + a) = L) (hob : ρ (200 + b) 4 = some (400 + b) ∧ ρ (200 + b) 5 = some (600 + b)) (hlb : Λ.2 (400 + b) = L ∧ Λ.2 (600 + b) = L) (hoc : ρ (200 + c) 4 = some (400 + c) ∧ ρ (200 + c) 5 = some (600 + c)) (hlc : Λ.2 (400 + c) = L ∧ Λ.2 (600 + c) = L) (hf4 : 400 + nr ∉ Λ.1) (hf6 : 600 + nr ∉ Λ.1) (hf2 : 200 + nr ∉ Λ.1) : gCe K 4 3 63 jX7_join [vR 7, vR (200 + a), vR (200 + b), vR (200 + c), vI year] ι ρ Λ (some (vI (nI nr))) (xLayI ι nr L a b c year) (xRopeR ρ nr) (xRopeL Λ nr (3 * L)) := by
  refine gC_of (by decide) (nle rfl) ?_
  refine x_aload_n 1 DX7_join_0 rfl rfl ?_
  refine x_iconst 1 DX7_join_1 (by decide) ?_
  refine x_puti 6 DX7_join_2 F7_45 (shp_rope (by omega)) (Or.inr ⟨rfl, (Or.inr rfl)⟩) rfl (fun ι2 e_ι2 => ?_)
  refine x_aload_n 2 DX7_join_5 rfl rfl ?_
  refine x_iconst 1 DX7_join_6 (by decide) ?_
  refine x_puti 6 DX7_join_7 F7_45 (shp_rope (by omega)) (Or.inr ⟨rfl, (Or.inr rfl)⟩) rfl (fun ι7 e_ι7 => ?_)
  refine x_aload_n 3 DX7_join_10 rfl rfl ?_
  refine x_iconst 1 DX7_join_11 (by decide) ?_
  refine x_puti 6 DX7_join_12 F7_45 (shp_rope (by omega)) (Or.inr ⟨rfl, (Or.inr rfl)⟩) rfl (fun ι12 e_ι12 => ?_)
  refine x_iconst 1 DX7_join_15 (by decide) ?_
  refine x_aload_n 1 DX7_join_16 rfl rfl ?_
  refine x_geti (v := (ι (200 + a) 2)) 2 DX7_join_17 (Or.inr F7_49) (shp_rope (by omega)) rfl (((rd2 e_ι12 (by decide)).trans (rd2 e_ι7 (by decide))).trans (rd2 e_ι2 (by decide))) ?_
  refine x_aload_n 2 DX7_join_20 rfl rfl ?_
  refine x_geti (v := (ι (200 + b) 2)) 2 DX7_join_21 (Or.inr F7_49) (shp_rope (by omega)) rfl (((rd2 e_ι12 (by decide)).trans (rd2 e_ι7 (by decide))).trans (rd2 e_ι2 (by decide))) ?_
  refine x_iadd DX7_join_24 ?_
  refine x_aload_n 3 DX7_join_25 rfl rfl ?_
  refine x_geti (v := (ι (200 + c) 2)) 2 DX7_join_26 (Or.inr F7_49) (shp_rope (by omega)) rfl (((rd2 e_ι12 (by decide)).trans (rd2 e_ι7 (by decide))).trans (rd2 e_ι2 (by decide))) ?_
  refine x_iadd DX7_join_29 ?_
  refine x_iconst 2 DX7_join_30 (by decide) ?_
  refine x_isub DX7_join_31 ?_
  refine x_Se (av := [vI 1, vI ((((ι (200 + a) 2) + (ι (200 + b) 2)) + (ι (200 + c) 2)) - 2)]) (rest := []) (st' := [vI (imax 1 ((((ι (200 + a) 2) + (ι (200 + b) 2)) + (ι (200 + c) 2)) - 2))]) 0 0 DX7_join_32 L7_52 rfl rfl ⟨nle rfl, nle rfl, nle rfl⟩ ⟨rfl, nle rfl⟩ ⟨rfl, nle rfl⟩ (j_max K 1 ((((ι (200 + a) 2) + (ι (200 + b) 2)) + (ι (200 + c) 2)) - 2) ι12 ρ Λ) rfl ?_
  refine x_istore (lv' := [some (vR 7), some (vR (200 + a)), some (vR (200 + b)), some (vR (200 + c)), some (vI year), some (vI (imax 1 ((((ι (200 + a) 2) + (ι (200 + b) 2)) + (ι (200 + c) 2)) - 2))), none, none]) DX7_join_35 ⟨nlt rfl, nlt rfl⟩ rfl ?_
  refine x_aload_n 1 DX7_join_37 rfl rfl ?_
  refine x_getr 4 (some (400 + a)) DX7_join_38 (Or.inr F7_55) (shp_rope (by omega)) rfl hoa.1 ?_
  refine x_aload_n 2 DX7_join_41 rfl rfl ?_
  refine x_getr 4 (some (400 + b)) DX7_join_42 (Or.inr F7_55) (shp_rope (by omega)) rfl hob.1 ?_
  refine x_aload_n 3 DX7_join_45 rfl rfl ?_
  refine x_getr 4 (some (400 + c)) DX7_join_46 (Or.inr F7_55) (shp_rope (by omega)) rfl hoc.1 ?_
  have gj := x_joined K ι12 ρ Λ hF L hL (400 + a) (400 + b) (400 + c) (400 + nr) (shp_own (by omega)) (shp_own (by omega)) (shp_own (by omega)) (shp_own (by omega)) hla.1 hlb.1 hlc.1 hf4 (by omega) (by omega) (by omega) (by omega)
  rw [show ι12 (400 + a) = ι (400 + a) from (((rr1 e_ι12 (by omega)).trans (rr1 e_ι7 (by omega))).trans (rr1 e_ι2 (by omega)))] at gj
  rw [show ι12 (400 + b) = ι (400 + b) from (((rr1 e_ι12 (by omega)).trans (rr1 e_ι7 (by omega))).trans (rr1 e_ι2 (by omega)))] at gj
  rw [show ι12 (400 + c) = ι (400 + c) from (((rr1 e_ι12 (by omega)).trans (rr1 e_ι7 (by omega))).trans (rr1 e_ι2 (by omega)))] at gj
  refine x_Se (av := [vR (400 + a), vR (400 + b), vR (400 + c)]) (rest := []) (st' := [vR (400 + nr)]) 1 27 DX7_join_49 L7_59 rfl rfl ⟨nle rfl, nle rfl, nle rfl⟩ ⟨rfl, nle rfl⟩ ⟨rfl, nle rfl⟩ (gj) rfl ?_
  refine x_nmι (fun ι49 e_ι49 => ?_)
  refine x_nmρ (fun ρ49 e_ρ49 => ?_)
  refine x_nmΛ (fun Λ49 e_Λ49 => ?_)
  have hF49 := gFix_new hF (c := 400 + nr) (by omega) e_ρ49 e_Λ49
  refine x_astore (lv' := [some (vR 7), some (vR (200 + a)), some (vR (200 + b)), some (vR (200 + c)), some (vI year), some (vI (imax 1 ((((ι (200 + a) 2) + (ι (200 + b) 2)) + (ι (200 + c) 2)) - 2))), some (vR (400 + nr)), none]) DX7_join_52 ⟨nlt rfl, nlt rfl⟩ rfl ?_
  refine x_aload_n 1 DX7_join_54 rfl rfl ?_
  refine x_getr 5 (some (600 + a)) DX7_join_55 (Or.inr F7_63) (shp_rope (by omega)) rfl (by rw [e_ρ49, va_up_ne _ _ (by omega)]; exact hoa.2) ?_
  refine x_aload_n 2 DX7_join_58 rfl rfl ?_
  refine x_getr 5 (some (600 + b)) DX7_join_59 (Or.inr F7_63) (shp_rope (by omega)) rfl (by rw [e_ρ49, va_up_ne _ _ (by omega)]; exact hob.2) ?_
  refine x_aload_n 3 DX7_join_62 rfl rfl ?_
  refine x_getr 5 (some (600 + c)) DX7_join_63 (Or.inr F7_63) (shp_rope (by omega)) rfl (by rw [e_ρ49, va_up_ne _ _ (by omega)]; exact hoc.2) ?_
  have gj := x_joined K ι49 ρ49 Λ49 hF49 L hL (600 + a) (600 + b) (600 + c) (600 + nr) (shp_car (by omega)) (shp_car (by omega)) (shp_car (by omega)) (shp_car (by omega)) (by rw [ln_old e_Λ49 (by omega)]; exact hla.2) (by rw [ln_old e_Λ49 (by omega)]; exact hlb.2) (by rw [ln_old e_Λ49 (by omega)]; exact hlc.2) (fr_new e_Λ49 hf6 (by omega)) (by omega) (by omega) (by omega) (by omega)
  rw [show ι49 (600 + a) = ι (600 + a) from ((((rrn1 e_ι49 (by omega)).trans (rr1 e_ι12 (by omega))).trans (rr1 e_ι7 (by omega))).trans (rr1 e_ι2 (by omega)))] at gj
  rw [show ι49 (600 + b) = ι (600 + b) from ((((rrn1 e_ι49 (by omega)).trans (rr1 e_ι12 (by omega))).trans (rr1 e_ι7 (by omega))).trans (rr1 e_ι2 (by omega)))] at gj
  rw [show ι49 (600 + c) = ι (600 + c) from ((((rrn1 e_ι49 (by omega)).trans (rr1 e_ι12 (by omega))).trans (rr1 e_ι7 (by omega))).trans (rr1 e_ι2 (by omega)))] at gj
  refine x_Se (av := [vR (600 + a), vR (600 + b), vR (600 + c)]) (rest := []) (st' := [vR (600 + nr)]) 2 54 DX7_join_66 L7_59 rfl rfl ⟨nle rfl, nle rfl, nle rfl⟩ ⟨rfl, nle rfl⟩ ⟨rfl, nle rfl⟩ (gj) rfl ?_
  refine x_nmι (fun ι66 e_ι66 => ?_)
  refine x_nmρ (fun ρ66 e_ρ66 => ?_)
  refine x_nmΛ (fun Λ66 e_Λ66 => ?_)
  have hF66 := gFix_new hF49 (c := 600 + nr) (by omega) e_ρ66 e_Λ66
  refine x_astore (lv' := [some (vR 7), some (vR (200 + a)), some (vR (200 + b)), some (vR (200 + c)), some (vI year), some (vI (imax 1 ((((ι (200 + a) 2) + (ι (200 + b) 2)) + (ι (200 + c) 2)) - 2))), some (vR (400 + nr)), some (vR (600 + nr))]) DX7_join_69 ⟨nlt rfl, nlt rfl⟩ rfl ?_
  refine x_aload_n 0 DX7_join_71 rfl rfl ?_
  refine x_new (ci := 6) (200 + nr) 9 DX7_join_72 (shp_rope (by omega)) ("GrassBridge$Rope", gf6, 9) rfl rfl gw1_77 gw3_22 gw1_13 (fr_new e_Λ66 (fr_new e_Λ49 hf2 (by omega)) (by omega)) (nle rfl) (nle rfl) (fun ι72 ρ72 Λ72 e_ι72 e_ρ72 e_Λ72 => ?_)
  refine x_widen 3 63 (nle rfl) (nle rfl) ?_
  have hF72 := gFix_new hF66 (c := 200 + nr) (by omega) e_ρ72 e_Λ72
  refine x_dup DX7_join_75 ?_
  refine x_aload_n 0 DX7_join_76 rfl rfl ?_
  refine x_geti (v := (nI nr)) 1 DX7_join_77 (Or.inl F7_17) rfl rfl (((((((rdn1 e_ι72 (by omega)).trans (rdn1 e_ι66 (by omega))).trans (rdn1 e_ι49 (by omega))).trans (rd1 e_ι12 (by omega))).trans (rd1 e_ι7 (by omega))).trans (rd1 e_ι2 (by omega))).trans hR) ?_
  refine x_aload_n 1 DX7_join_80 rfl rfl ?_
  refine x_geti (v := (ι (200 + a) 1)) 1 DX7_join_81 (Or.inr F7_66) (shp_rope (by omega)) rfl ((((((rdn1 e_ι72 (by omega)).trans (rdn1 e_ι66 (by omega))).trans (rdn1 e_ι49 (by omega))).trans (rd2 e_ι12 (by decide))).trans (rd2 e_ι7 (by decide))).trans (rd2 e_ι2 (by decide))) ?_
  refine x_iconst 1 DX7_join_84 (by decide) ?_
  refine x_iadd DX7_join_85 ?_
  refine x_iload DX7_join_86 rfl ?_
  refine x_iload DX7_join_88 rfl ?_
  refine x_aload DX7_join_90 rfl ?_
  refine x_aload DX7_join_92 rfl ?_
  refine x_Ie (av := [vI (nI nr), vI ((ι (200 + a) 1) + 1), vI (imax 1 ((((ι (200 + a) 2) + (ι (200 + b) 2)) + (ι (200 + c) 2)) - 2)), vI year, vR (400 + nr), vR (600 + nr)]) (rest := [vR (200 + nr), vR 7]) (st' := [vR (200 + nr), vR 7]) 3 63 DX7_join_94 L7_38 rfl rfl ⟨nle rfl, nle rfl, nle rfl⟩ ⟨rfl, nle rfl⟩ ⟨rfl, nle rfl⟩ (x_Rope K (nI nr) ((ι (200 + a) 1) + 1) (imax 1 ((((ι (200 + a) 2) + (ι (200 + b) 2)) + (ι (200 + c) 2)) - 2)) year ι72 ρ72 Λ72 nr (by omega)) rfl ?_
  refine x_nmι (fun ι94 e_ι94 => ?_)
  refine x_nmρ (fun ρ94 e_ρ94 => ?_)
  have hFz := gFix_up (gFix_up hF72 (c := 200 + nr) (k := 4) (o := some (400 + nr)) (gst_none (by omega)) rfl) (c := 200 + nr) (k := 5) (o := some (600 + nr)) (gst_none (by omega)) rfl
  rw [← e_ρ94] at hFz
  refine x_Ve (ci := 7) (av := [vR (200 + nr)]) (rest := []) (st' := [vI (nI nr)]) 3 63 DX7_join_97 L7_41 rfl rfl rfl rfl rfl ⟨nle rfl, nle rfl, nle rfl⟩ ⟨rfl, nle rfl⟩ ⟨rfl, nle rfl⟩ (x_keepR K ι94 ρ94 Λ72 hFz nr (by rw [e_ι94, up2_ne _ _ _ (by omega), up2_ne _ _ _ (by omega), up2_ne _ _ _ (by omega), up2_ne _ _ _ (by omega), up2_ne _ _ _ (by omega), e_ι72, va_up_ne _ _ (by omega), e_ι66, va_up_ne _ _ (by omega), e_ι49, va_up_ne _ _ (by omega), e_ι12, up2_ne _ _ _ (by omega), e_ι7, up2_ne _ _ _ (by omega), e_ι2, up2_ne _ _ _ (by omega)]; exact hR) hr) rfl ?_
  refine x_nmι (fun ι97 e_ι97 => ?_)
  refine x_nmρ (fun ρ97 e_ρ97 => ?_)
  exact x_ireturn DX7_join_100 rfl ⟨rfl, by subst_vars; rfl, by subst_vars; rfl, by subst_vars; rfl⟩
theorem x_timesAmong (K : gK) (h a b c : Int32) (ι : gIm) (ρ : gRm) (Λ : gLm)  : gCe K 1 0 0 jX11_timesAmong [vI h, vI a, vI b, vI c] ι ρ Λ (some (vI (sSame a b c h))) ι ρ Λ := by
  refine gC_of (by decide) (nle rfl) ?_
  refine x_iload_n 0 DX11_timesAmong_0 rfl rfl ?_
  refine x_iload_n 1 DX11_timesAmong_1 rfl rfl ?_
  refine x_icmp_ne 9 DX11_timesAmong_2 (by decide) (fun c_2 => ?_) (fun c_2 => ?_)
  · refine x_iconst 0 DX11_timesAmong_9 (by decide) ?_
    refine x_iload_n 0 DX11_timesAmong_10 rfl rfl ?_
    refine x_iload_n 2 DX11_timesAmong_11 rfl rfl ?_
    refine x_icmp_ne 19 DX11_timesAmong_12 (by decide) (fun c_12 => ?_) (fun c_12 => ?_)
    · refine x_iconst 0 DX11_timesAmong_19 (by decide) ?_
      refine x_iadd DX11_timesAmong_20 ?_
      refine x_iload_n 0 DX11_timesAmong_21 rfl rfl ?_
      refine x_iload_n 3 DX11_timesAmong_22 rfl rfl ?_
      refine x_icmp_ne 30 DX11_timesAmong_23 (by decide) (fun c_23 => ?_) (fun c_23 => ?_)
      · refine x_iconst 0 DX11_timesAmong_30 (by decide) ?_
        refine x_iadd DX11_timesAmong_31 ?_
        exact x_ireturn DX11_timesAmong_32 rfl ⟨by grind [sSame], rfl, rfl, rfl⟩
      · refine x_iconst 1 DX11_timesAmong_26 (by decide) ?_
        refine x_goto 31 DX11_timesAmong_27 (by decide) ?_
        refine x_iadd DX11_timesAmong_31 ?_
        exact x_ireturn DX11_timesAmong_32 rfl ⟨by grind [sSame], rfl, rfl, rfl⟩
    · refine x_iconst 1 DX11_timesAmong_15 (by decide) ?_
      refine x_goto 20 DX11_timesAmong_16 (by decide) ?_
      refine x_iadd DX11_timesAmong_20 ?_
      refine x_iload_n 0 DX11_timesAmong_21 rfl rfl ?_
      refine x_iload_n 3 DX11_timesAmong_22 rfl rfl ?_
      refine x_icmp_ne 30 DX11_timesAmong_23 (by decide) (fun c_23 => ?_) (fun c_23 => ?_)
      · refine x_iconst 0 DX11_timesAmong_30 (by decide) ?_
        refine x_iadd DX11_timesAmong_31 ?_
        exact x_ireturn DX11_timesAmong_32 rfl ⟨by grind [sSame], rfl, rfl, rfl⟩
      · refine x_iconst 1 DX11_timesAmong_26 (by decide) ?_
        refine x_goto 31 DX11_timesAmong_27 (by decide) ?_
        refine x_iadd DX11_timesAmong_31 ?_
        exact x_ireturn DX11_timesAmong_32 rfl ⟨by grind [sSame], rfl, rfl, rfl⟩
  · refine x_iconst 1 DX11_timesAmong_5 (by decide) ?_
    refine x_goto 10 DX11_timesAmong_6 (by decide) ?_
    refine x_iload_n 0 DX11_timesAmong_10 rfl rfl ?_
    refine x_iload_n 2 DX11_timesAmong_11 rfl rfl ?_
    refine x_icmp_ne 19 DX11_timesAmong_12 (by decide) (fun c_12 => ?_) (fun c_12 => ?_)
    · refine x_iconst 0 DX11_timesAmong_19 (by decide) ?_
      refine x_iadd DX11_timesAmong_20 ?_
      refine x_iload_n 0 DX11_timesAmong_21 rfl rfl ?_
      refine x_iload_n 3 DX11_timesAmong_22 rfl rfl ?_
      refine x_icmp_ne 30 DX11_timesAmong_23 (by decide) (fun c_23 => ?_) (fun c_23 => ?_)
      · refine x_iconst 0 DX11_timesAmong_30 (by decide) ?_
        refine x_iadd DX11_timesAmong_31 ?_
        exact x_ireturn DX11_timesAmong_32 rfl ⟨by grind [sSame], rfl, rfl, rfl⟩
      · refine x_iconst 1 DX11_timesAmong_26 (by decide) ?_
        refine x_goto 31 DX11_timesAmong_27 (by decide) ?_
        refine x_iadd DX11_timesAmong_31 ?_
        exact x_ireturn DX11_timesAmong_32 rfl ⟨by grind [sSame], rfl, rfl, rfl⟩
    · refine x_iconst 1 DX11_timesAmong_15 (by decide) ?_
      refine x_goto 20 DX11_timesAmong_16 (by decide) ?_
      refine x_iadd DX11_timesAmong_20 ?_
      refine x_iload_n 0 DX11_timesAmong_21 rfl rfl ?_
      refine x_iload_n 3 DX11_timesAmong_22 rfl rfl ?_
      refine x_icmp_ne 30 DX11_timesAmong_23 (by decide) (fun c_23 => ?_) (fun c_23 => ?_)
      · refine x_iconst 0 DX11_timesAmong_30 (by decide) ?_
        refine x_iadd DX11_timesAmong_31 ?_
        exact x_ireturn DX11_timesAmong_32 rfl ⟨by grind [sSame], rfl, rfl, rfl⟩
      · refine x_iconst 1 DX11_timesAmong_26 (by decide) ?_
        refine x_goto 31 DX11_timesAmong_27 (by decide) ?_
        refine x_iadd DX11_timesAmong_31 ?_
        exact x_ireturn DX11_timesAmong_32 rfl ⟨by grind [sSame], rfl, rfl, rfl⟩
theorem x_small (K : gK) (a b c : Int32) (ι : gIm) (ρ : gRm) (Λ : gLm) (hF : gFix ρ Λ) (nh : Nat) (hH : ι 4 2 = nI nh) (hn : nh ≤ 24) (hAl : ∀ i, i < nh → ρ 5 i = some (100 + i)) (nr : Nat) (hR : ι 7 1 = nI nr) (hr0 : nr ≤ 200) (hfr : nr < 200 → 400 + nr ∉ Λ.1 ∧ 600 + nr ∉ Λ.1 ∧ 200 + nr ∉ Λ.1) (hle2 : nI nr ≤ 200) : gCe K 5 3 15 jX11_small [vR 0, vI a, vI b, vI c] ι ρ Λ (some (vI (rs (cSmall a b c (nI nh) (hr ι 5 a.toNatClampNeg / 10 - hr ι 7 a.toNatClampNeg) (hr ι 5 b.toNatClampNeg / 10 - hr ι 7 b.toNatClampNeg) (hr ι 5 c.toNatClampNeg / 10 - hr ι 7 c.toNatClampNeg) (nI nr)) (nI nr)))) (rsM (cSmall a b c (nI nh) (hr ι 5 a.toNatClampNeg / 10 - hr ι 7 a.toNatClampNeg) (hr ι 5 b.toNatClampNeg / 10 - hr ι 7 b.toNatClampNeg) (hr ι 5 c.toNatClampNeg / 10 - hr ι 7 c.toNatClampNeg) (nI nr)) 1 ι (xSmallI ι nr a.toNatClampNeg b.toNatClampNeg c.toNatClampNeg (ι 2 0))) (sel (cSmall a b c (nI nh) (hr ι 5 a.toNatClampNeg / 10 - hr ι 7 a.toNatClampNeg) (hr ι 5 b.toNatClampNeg / 10 - hr ι 7 b.toNatClampNeg) (hr ι 5 c.toNatClampNeg / 10 - hr ι 7 c.toNatClampNeg) (nI nr)) (xRopeR ρ nr) ρ) (sel (cSmall a b c (nI nh) (hr ι 5 a.toNatClampNeg / 10 - hr ι 7 a.toNatClampNeg) (hr ι 5 b.toNatClampNeg / 10 - hr ι 7 b.toNatClampNeg) (hr ι 5 c.toNatClampNeg / 10 - hr ι 7 c.toNatClampNeg) (nI nr)) (xRopeL Λ nr 3) Λ) := by
  refine gC_of (by decide) (nle rfl) ?_
  by_cases f_a : 0 ≤ a ∧ a < nI nh
  · have b_a := nn_i f_a (by omega)
    refine x_aload_n 0 DX11_small_0 rfl rfl ?_
    refine x_getr 2 (some 4) DX11_small_1 (Or.inr F11_23) rfl rfl (hF.1 0 2 4 rfl) ?_
    refine x_iload_n 1 DX11_small_4 rfl rfl ?_
    by_cases f_b : 0 ≤ b ∧ b < nI nh
    · have b_b := nn_i f_b (by omega)
      refine x_Ve (ci := 3) (av := [vI a]) (rest := []) (st' := [vR (100 + a.toNatClampNeg)]) 0 0 DX11_small_5 L11_139 rfl rfl rfl rfl rfl ⟨nle rfl, nle rfl, nle rfl⟩ ⟨rfl, nle rfl⟩ ⟨rfl, nle rfl⟩ (x_findH K a ι ρ Λ hF nh hH hn hAl f_a) rfl ?_
      refine x_astore (lv' := [some (vR 0), some (vI a), some (vI b), some (vI c), some (vR (100 + a.toNatClampNeg)), none, none]) DX11_small_8 ⟨nlt rfl, nlt rfl⟩ rfl ?_
      refine x_aload_n 0 DX11_small_10 rfl rfl ?_
      refine x_getr 2 (some 4) DX11_small_11 (Or.inr F11_23) rfl rfl (hF.1 0 2 4 rfl) ?_
      refine x_iload_n 2 DX11_small_14 rfl rfl ?_
      refine x_Ve (ci := 3) (av := [vI b]) (rest := []) (st' := [vR (100 + b.toNatClampNeg)]) 0 0 DX11_small_15 L11_139 rfl rfl rfl rfl rfl ⟨nle rfl, nle rfl, nle rfl⟩ ⟨rfl, nle rfl⟩ ⟨rfl, nle rfl⟩ (x_findH K b ι ρ Λ hF nh hH hn hAl f_b) rfl ?_
      refine x_astore (lv' := [some (vR 0), some (vI a), some (vI b), some (vI c), some (vR (100 + a.toNatClampNeg)), some (vR (100 + b.toNatClampNeg)), none]) DX11_small_18 ⟨nlt rfl, nlt rfl⟩ rfl ?_
      by_cases f_c : 0 ≤ c ∧ c < nI nh
      · have b_c := nn_i f_c (by omega)
        refine x_aload_n 0 DX11_small_20 rfl rfl ?_
        refine x_getr 2 (some 4) DX11_small_21 (Or.inr F11_23) rfl rfl (hF.1 0 2 4 rfl) ?_
        refine x_iload_n 3 DX11_small_24 rfl rfl ?_
        refine x_Ve (ci := 3) (av := [vI c]) (rest := []) (st' := [vR (100 + c.toNatClampNeg)]) 0 0 DX11_small_25 L11_139 rfl rfl rfl rfl rfl ⟨nle rfl, nle rfl, nle rfl⟩ ⟨rfl, nle rfl⟩ ⟨rfl, nle rfl⟩ (x_findH K c ι ρ Λ hF nh hH hn hAl f_c) rfl ?_
        refine x_astore (lv' := [some (vR 0), some (vI a), some (vI b), some (vI c), some (vR (100 + a.toNatClampNeg)), some (vR (100 + b.toNatClampNeg)), some (vR (100 + c.toNatClampNeg))]) DX11_small_28 ⟨nlt rfl, nlt rfl⟩ rfl ?_
        refine x_aload DX11_small_30 rfl ?_
        refine x_ifnull 45 DX11_small_32 (by decide) (fun h => by cases h) (fun _ _ => ?_)
        refine x_aload DX11_small_35 rfl ?_
        refine x_ifnull 45 DX11_small_37 (by decide) (fun h => by cases h) (fun _ _ => ?_)
        refine x_aload DX11_small_40 rfl ?_
        refine x_ifnonnull 51 DX11_small_42 (by decide) (fun _ _ => ?_) (fun h => by cases h)
        refine x_aload DX11_small_51 rfl ?_
        refine x_Ve (ci := 2) (av := []) (rest := []) (st' := [vI ((ι (100 + a.toNatClampNeg) 5) / 10 - (ι (100 + a.toNatClampNeg) 7))]) 0 0 DX11_small_53 L11_162 rfl rfl (shp_house (by omega)) rfl rfl ⟨nle rfl, nle rfl, nle rfl⟩ ⟨rfl, nle rfl⟩ ⟨rfl, nle rfl⟩ (x_cordsLeft K ι ρ Λ a.toNatClampNeg (by omega)) rfl ?_
        refine x_iload_n 1 DX11_small_56 rfl rfl ?_
        refine x_iload_n 1 DX11_small_57 rfl rfl ?_
        refine x_iload_n 2 DX11_small_58 rfl rfl ?_
        refine x_iload_n 3 DX11_small_59 rfl rfl ?_
        refine x_Se (av := [vI a, vI a, vI b, vI c]) (rest := [vI ((ι (100 + a.toNatClampNeg) 5) / 10 - (ι (100 + a.toNatClampNeg) 7))]) (st' := [vI (sSame a b c a), vI ((ι (100 + a.toNatClampNeg) 5) / 10 - (ι (100 + a.toNatClampNeg) 7))]) 0 0 DX11_small_60 L11_179 rfl rfl ⟨nle rfl, nle rfl, nle rfl⟩ ⟨rfl, nle rfl⟩ ⟨rfl, nle rfl⟩ (x_timesAmong K a a b c ι ρ Λ) rfl ?_
        refine x_icmp_lt 96 DX11_small_63 (by decide) (fun c_63 => ?_) (fun c_63 => ?_)
        · refine x_aload_n 0 DX11_small_96 rfl rfl ?_
          refine x_bipush (-3) DX11_small_97 (by decide) ?_
          refine x_Ve (ci := 11) (av := [vI (-3)]) (rest := []) (st' := [vI (-3)]) 0 0 DX11_small_99 L11_72 rfl rfl rfl rfl rfl ⟨nle rfl, nle rfl, nle rfl⟩ ⟨rfl, nle rfl⟩ ⟨rfl, nle rfl⟩ (x_refuse K (-3) ι ρ Λ hF ⟨by decide, by decide⟩) rfl ?_
          refine x_nmι (fun ι99 e_ι99 => ?_)
          refine x_widen 3 15 (nle rfl) (nle rfl) ?_
          exact x_ireturn DX11_small_102 rfl ⟨by rw [rs, if_neg (by grind [cSmall, hr])]; grind [cSmall, hr], by rw [rsM, if_neg (by grind [cSmall, hr])]; grind [cSmall, hr], by rw [sel, if_neg (by grind [cSmall, hr])], by rw [sel, if_neg (by grind [cSmall, hr])]⟩
        · refine x_aload DX11_small_66 rfl ?_
          refine x_Ve (ci := 2) (av := []) (rest := []) (st' := [vI ((ι (100 + b.toNatClampNeg) 5) / 10 - (ι (100 + b.toNatClampNeg) 7))]) 0 0 DX11_small_68 L11_162 rfl rfl (shp_house (by omega)) rfl rfl ⟨nle rfl, nle rfl, nle rfl⟩ ⟨rfl, nle rfl⟩ ⟨rfl, nle rfl⟩ (x_cordsLeft K ι ρ Λ b.toNatClampNeg (by omega)) rfl ?_
          refine x_iload_n 2 DX11_small_71 rfl rfl ?_
          refine x_iload_n 1 DX11_small_72 rfl rfl ?_
          refine x_iload_n 2 DX11_small_73 rfl rfl ?_
          refine x_iload_n 3 DX11_small_74 rfl rfl ?_
          refine x_Se (av := [vI b, vI a, vI b, vI c]) (rest := [vI ((ι (100 + b.toNatClampNeg) 5) / 10 - (ι (100 + b.toNatClampNeg) 7))]) (st' := [vI (sSame a b c b), vI ((ι (100 + b.toNatClampNeg) 5) / 10 - (ι (100 + b.toNatClampNeg) 7))]) 0 0 DX11_small_75 L11_179 rfl rfl ⟨nle rfl, nle rfl, nle rfl⟩ ⟨rfl, nle rfl⟩ ⟨rfl, nle rfl⟩ (x_timesAmong K b a b c ι ρ Λ) rfl ?_
          refine x_icmp_lt 96 DX11_small_78 (by decide) (fun c_78 => ?_) (fun c_78 => ?_)
          · refine x_aload_n 0 DX11_small_96 rfl rfl ?_
            refine x_bipush (-3) DX11_small_97 (by decide) ?_
            refine x_Ve (ci := 11) (av := [vI (-3)]) (rest := []) (st' := [vI (-3)]) 0 0 DX11_small_99 L11_72 rfl rfl rfl rfl rfl ⟨nle rfl, nle rfl, nle rfl⟩ ⟨rfl, nle rfl⟩ ⟨rfl, nle rfl⟩ (x_refuse K (-3) ι ρ Λ hF ⟨by decide, by decide⟩) rfl ?_
            refine x_nmι (fun ι99 e_ι99 => ?_)
            refine x_widen 3 15 (nle rfl) (nle rfl) ?_
            exact x_ireturn DX11_small_102 rfl ⟨by rw [rs, if_neg (by grind [cSmall, hr])]; grind [cSmall, hr], by rw [rsM, if_neg (by grind [cSmall, hr])]; grind [cSmall, hr], by rw [sel, if_neg (by grind [cSmall, hr])], by rw [sel, if_neg (by grind [cSmall, hr])]⟩
          · refine x_aload DX11_small_81 rfl ?_
            refine x_Ve (ci := 2) (av := []) (rest := []) (st' := [vI ((ι (100 + c.toNatClampNeg) 5) / 10 - (ι (100 + c.toNatClampNeg) 7))]) 0 0 DX11_small_83 L11_162 rfl rfl (shp_house (by omega)) rfl rfl ⟨nle rfl, nle rfl, nle rfl⟩ ⟨rfl, nle rfl⟩ ⟨rfl, nle rfl⟩ (x_cordsLeft K ι ρ Λ c.toNatClampNeg (by omega)) rfl ?_
            refine x_iload_n 3 DX11_small_86 rfl rfl ?_
            refine x_iload_n 1 DX11_small_87 rfl rfl ?_
            refine x_iload_n 2 DX11_small_88 rfl rfl ?_
            refine x_iload_n 3 DX11_small_89 rfl rfl ?_
            refine x_Se (av := [vI c, vI a, vI b, vI c]) (rest := [vI ((ι (100 + c.toNatClampNeg) 5) / 10 - (ι (100 + c.toNatClampNeg) 7))]) (st' := [vI (sSame a b c c), vI ((ι (100 + c.toNatClampNeg) 5) / 10 - (ι (100 + c.toNatClampNeg) 7))]) 0 0 DX11_small_90 L11_179 rfl rfl ⟨nle rfl, nle rfl, nle rfl⟩ ⟨rfl, nle rfl⟩ ⟨rfl, nle rfl⟩ (x_timesAmong K c a b c ι ρ Λ) rfl ?_
            refine x_icmp_ge 103 DX11_small_93 (by decide) (fun c_93 => ?_) (fun c_93 => ?_)
            · refine x_aload_n 0 DX11_small_103 rfl rfl ?_
              refine x_getr 3 (some 7) DX11_small_104 (Or.inr F11_30) rfl rfl (hF.1 0 3 7 rfl) ?_
              have gf := x_isFull K ι ρ Λ
              rw [show ι 7 1 = (nI nr) from hR] at gf
              refine x_Ve (ci := 7) (av := []) (rest := []) (st' := [vI (b2i (200 ≤ (nI nr)))]) 0 0 DX11_small_107 L11_183 rfl rfl rfl rfl rfl ⟨nle rfl, nle rfl, nle rfl⟩ ⟨rfl, nle rfl⟩ ⟨rfl, nle rfl⟩ (gf) rfl ?_
              refine x_if_eq_b 122 DX11_small_110 (by decide) (fun c_110 => ?_) (fun c_110 => ?_)
              · refine x_aload_n 0 DX11_small_122 rfl rfl ?_
                refine x_getr 3 (some 7) DX11_small_123 (Or.inr F11_30) rfl rfl (hF.1 0 3 7 rfl) ?_
                refine x_aload DX11_small_126 rfl ?_
                refine x_aload DX11_small_128 rfl ?_
                refine x_aload DX11_small_130 rfl ?_
                refine x_aload_n 0 DX11_small_132 rfl rfl ?_
                refine x_getr 1 (some 2) DX11_small_133 (Or.inr F11_16) rfl rfl (hF.1 0 1 2 rfl) ?_
                refine x_geti (v := (ι 2 0)) 0 DX11_small_136 (Or.inl F11_94) rfl rfl rfl ?_
                refine x_Ve (ci := 7) (av := [vR (100 + a.toNatClampNeg), vR (100 + b.toNatClampNeg), vR (100 + c.toNatClampNeg), vI (ι 2 0)]) (rest := []) (st' := [vI (nI nr)]) 3 15 DX11_small_139 L11_187 rfl rfl rfl rfl rfl ⟨nle rfl, nle rfl, nle rfl⟩ ⟨rfl, nle rfl⟩ ⟨rfl, nle rfl⟩ (x_twist K (ι 2 0) ι ρ Λ hF nr hR (nr_lt (by assumption) hr0) a.toNatClampNeg b.toNatClampNeg c.toNatClampNeg (by omega) (by omega) (by omega) (hfr (nr_lt (by assumption) hr0)).1 (hfr (nr_lt (by assumption) hr0)).2.1 (hfr (nr_lt (by assumption) hr0)).2.2) rfl ?_
                refine x_nmι (fun ι139 e_ι139 => ?_)
                refine x_nmρ (fun ρ139 e_ρ139 => ?_)
                refine x_nmΛ (fun Λ139 e_Λ139 => ?_)
                exact x_ireturn DX11_small_142 rfl ⟨by rw [rs, if_pos (by grind [cSmall, hr])], by rw [rsM, if_pos (by grind [cSmall, hr])]; subst_vars; rfl, by rw [sel, if_pos (by grind [cSmall, hr])]; subst_vars; rfl, by rw [sel, if_pos (by grind [cSmall, hr])]; subst_vars; rfl⟩
              · refine x_aload_n 0 DX11_small_113 rfl rfl ?_
                refine x_bipush (-6) DX11_small_114 (by decide) ?_
                refine x_Ve (ci := 11) (av := [vI (-6)]) (rest := []) (st' := [vI (-6)]) 0 0 DX11_small_116 L11_72 rfl rfl rfl rfl rfl ⟨nle rfl, nle rfl, nle rfl⟩ ⟨rfl, nle rfl⟩ ⟨rfl, nle rfl⟩ (x_refuse K (-6) ι ρ Λ hF ⟨by decide, by decide⟩) rfl ?_
                refine x_nmι (fun ι116 e_ι116 => ?_)
                refine x_goto 142 DX11_small_119 (by decide) ?_
                refine x_widen 3 15 (nle rfl) (nle rfl) ?_
                exact x_ireturn DX11_small_142 rfl ⟨by rw [rs, if_neg (by grind [cSmall, hr])]; grind [cSmall, hr], by rw [rsM, if_neg (by grind [cSmall, hr])]; grind [cSmall, hr], by rw [sel, if_neg (by grind [cSmall, hr])], by rw [sel, if_neg (by grind [cSmall, hr])]⟩
            · refine x_aload_n 0 DX11_small_96 rfl rfl ?_
              refine x_bipush (-3) DX11_small_97 (by decide) ?_
              refine x_Ve (ci := 11) (av := [vI (-3)]) (rest := []) (st' := [vI (-3)]) 0 0 DX11_small_99 L11_72 rfl rfl rfl rfl rfl ⟨nle rfl, nle rfl, nle rfl⟩ ⟨rfl, nle rfl⟩ ⟨rfl, nle rfl⟩ (x_refuse K (-3) ι ρ Λ hF ⟨by decide, by decide⟩) rfl ?_
              refine x_nmι (fun ι99 e_ι99 => ?_)
              refine x_widen 3 15 (nle rfl) (nle rfl) ?_
              exact x_ireturn DX11_small_102 rfl ⟨by rw [rs, if_neg (by grind [cSmall, hr])]; grind [cSmall, hr], by rw [rsM, if_neg (by grind [cSmall, hr])]; grind [cSmall, hr], by rw [sel, if_neg (by grind [cSmall, hr])], by rw [sel, if_neg (by grind [cSmall, hr])]⟩
      · refine x_aload_n 0 DX11_small_20 rfl rfl ?_
        refine x_getr 2 (some 4) DX11_small_21 (Or.inr F11_23) rfl rfl (hF.1 0 2 4 rfl) ?_
        refine x_iload_n 3 DX11_small_24 rfl rfl ?_
        refine x_Ve (ci := 3) (av := [vI c]) (rest := []) (st' := [vN]) 0 0 DX11_small_25 L11_139 rfl rfl rfl rfl rfl ⟨nle rfl, nle rfl, nle rfl⟩ ⟨rfl, nle rfl⟩ ⟨rfl, nle rfl⟩ (x_findN K c ι ρ Λ hF nh hH hn f_c) rfl ?_
        refine x_astore (lv' := [some (vR 0), some (vI a), some (vI b), some (vI c), some (vR (100 + a.toNatClampNeg)), some (vR (100 + b.toNatClampNeg)), some (vN)]) DX11_small_28 ⟨nlt rfl, nlt rfl⟩ rfl ?_
        refine x_aload DX11_small_30 rfl ?_
        refine x_ifnull 45 DX11_small_32 (by decide) (fun h => by cases h) (fun _ _ => ?_)
        refine x_aload DX11_small_35 rfl ?_
        refine x_ifnull 45 DX11_small_37 (by decide) (fun h => by cases h) (fun _ _ => ?_)
        refine x_aload DX11_small_40 rfl ?_
        refine x_ifnonnull 51 DX11_small_42 (by decide) (fun _ h => by cases h) (fun _ => ?_)
        refine x_aload_n 0 DX11_small_45 rfl rfl ?_
        refine x_iconst (-1) DX11_small_46 (by decide) ?_
        refine x_Ve (ci := 11) (av := [vI (-1)]) (rest := []) (st' := [vI (-1)]) 0 0 DX11_small_47 L11_72 rfl rfl rfl rfl rfl ⟨nle rfl, nle rfl, nle rfl⟩ ⟨rfl, nle rfl⟩ ⟨rfl, nle rfl⟩ (x_refuse K (-1) ι ρ Λ hF ⟨by decide, by decide⟩) rfl ?_
        refine x_nmι (fun ι47 e_ι47 => ?_)
        refine x_widen 3 15 (nle rfl) (nle rfl) ?_
        exact x_ireturn DX11_small_50 rfl ⟨by rw [rs, if_neg (by grind [cSmall, hr])]; grind [cSmall, hr], by rw [rsM, if_neg (by grind [cSmall, hr])]; grind [cSmall, hr], by rw [sel, if_neg (by grind [cSmall, hr])], by rw [sel, if_neg (by grind [cSmall, hr])]⟩
    · refine x_Ve (ci := 3) (av := [vI a]) (rest := []) (st' := [vR (100 + a.toNatClampNeg)]) 0 0 DX11_small_5 L11_139 rfl rfl rfl rfl rfl ⟨nle rfl, nle rfl, nle rfl⟩ ⟨rfl, nle rfl⟩ ⟨rfl, nle rfl⟩ (x_findH K a ι ρ Λ hF nh hH hn hAl f_a) rfl ?_
      refine x_astore (lv' := [some (vR 0), some (vI a), some (vI b), some (vI c), some (vR (100 + a.toNatClampNeg)), none, none]) DX11_small_8 ⟨nlt rfl, nlt rfl⟩ rfl ?_
      refine x_aload_n 0 DX11_small_10 rfl rfl ?_
      refine x_getr 2 (some 4) DX11_small_11 (Or.inr F11_23) rfl rfl (hF.1 0 2 4 rfl) ?_
      refine x_iload_n 2 DX11_small_14 rfl rfl ?_
      refine x_Ve (ci := 3) (av := [vI b]) (rest := []) (st' := [vN]) 0 0 DX11_small_15 L11_139 rfl rfl rfl rfl rfl ⟨nle rfl, nle rfl, nle rfl⟩ ⟨rfl, nle rfl⟩ ⟨rfl, nle rfl⟩ (x_findN K b ι ρ Λ hF nh hH hn f_b) rfl ?_
      refine x_astore (lv' := [some (vR 0), some (vI a), some (vI b), some (vI c), some (vR (100 + a.toNatClampNeg)), some (vN), none]) DX11_small_18 ⟨nlt rfl, nlt rfl⟩ rfl ?_
      by_cases f_c : 0 ≤ c ∧ c < nI nh
      · have b_c := nn_i f_c (by omega)
        refine x_aload_n 0 DX11_small_20 rfl rfl ?_
        refine x_getr 2 (some 4) DX11_small_21 (Or.inr F11_23) rfl rfl (hF.1 0 2 4 rfl) ?_
        refine x_iload_n 3 DX11_small_24 rfl rfl ?_
        refine x_Ve (ci := 3) (av := [vI c]) (rest := []) (st' := [vR (100 + c.toNatClampNeg)]) 0 0 DX11_small_25 L11_139 rfl rfl rfl rfl rfl ⟨nle rfl, nle rfl, nle rfl⟩ ⟨rfl, nle rfl⟩ ⟨rfl, nle rfl⟩ (x_findH K c ι ρ Λ hF nh hH hn hAl f_c) rfl ?_
        refine x_astore (lv' := [some (vR 0), some (vI a), some (vI b), some (vI c), some (vR (100 + a.toNatClampNeg)), some (vN), some (vR (100 + c.toNatClampNeg))]) DX11_small_28 ⟨nlt rfl, nlt rfl⟩ rfl ?_
        refine x_aload DX11_small_30 rfl ?_
        refine x_ifnull 45 DX11_small_32 (by decide) (fun h => by cases h) (fun _ _ => ?_)
        refine x_aload DX11_small_35 rfl ?_
        refine x_ifnull 45 DX11_small_37 (by decide) (fun _ => ?_) (fun _ h => by cases h)
        refine x_aload_n 0 DX11_small_45 rfl rfl ?_
        refine x_iconst (-1) DX11_small_46 (by decide) ?_
        refine x_Ve (ci := 11) (av := [vI (-1)]) (rest := []) (st' := [vI (-1)]) 0 0 DX11_small_47 L11_72 rfl rfl rfl rfl rfl ⟨nle rfl, nle rfl, nle rfl⟩ ⟨rfl, nle rfl⟩ ⟨rfl, nle rfl⟩ (x_refuse K (-1) ι ρ Λ hF ⟨by decide, by decide⟩) rfl ?_
        refine x_nmι (fun ι47 e_ι47 => ?_)
        refine x_widen 3 15 (nle rfl) (nle rfl) ?_
        exact x_ireturn DX11_small_50 rfl ⟨by rw [rs, if_neg (by grind [cSmall, hr])]; grind [cSmall, hr], by rw [rsM, if_neg (by grind [cSmall, hr])]; grind [cSmall, hr], by rw [sel, if_neg (by grind [cSmall, hr])], by rw [sel, if_neg (by grind [cSmall, hr])]⟩
      · refine x_aload_n 0 DX11_small_20 rfl rfl ?_
        refine x_getr 2 (some 4) DX11_small_21 (Or.inr F11_23) rfl rfl (hF.1 0 2 4 rfl) ?_
        refine x_iload_n 3 DX11_small_24 rfl rfl ?_
        refine x_Ve (ci := 3) (av := [vI c]) (rest := []) (st' := [vN]) 0 0 DX11_small_25 L11_139 rfl rfl rfl rfl rfl ⟨nle rfl, nle rfl, nle rfl⟩ ⟨rfl, nle rfl⟩ ⟨rfl, nle rfl⟩ (x_findN K c ι ρ Λ hF nh hH hn f_c) rfl ?_
        refine x_astore (lv' := [some (vR 0), some (vI a), some (vI b), some (vI c), some (vR (100 + a.toNatClampNeg)), some (vN), some (vN)]) DX11_small_28 ⟨nlt rfl, nlt rfl⟩ rfl ?_
        refine x_aload DX11_small_30 rfl ?_
        refine x_ifnull 45 DX11_small_32 (by decide) (fun h => by cases h) (fun _ _ => ?_)
        refine x_aload DX11_small_35 rfl ?_
        refine x_ifnull 45 DX11_small_37 (by decide) (fun _ => ?_) (fun _ h => by cases h)
        refine x_aload_n 0 DX11_small_45 rfl rfl ?_
        refine x_iconst (-1) DX11_small_46 (by decide) ?_
        refine x_Ve (ci := 11) (av := [vI (-1)]) (rest := []) (st' := [vI (-1)]) 0 0 DX11_small_47 L11_72 rfl rfl rfl rfl rfl ⟨nle rfl, nle rfl, nle rfl⟩ ⟨rfl, nle rfl⟩ ⟨rfl, nle rfl⟩ (x_refuse K (-1) ι ρ Λ hF ⟨by decide, by decide⟩) rfl ?_
        refine x_nmι (fun ι47 e_ι47 => ?_)
        refine x_widen 3 15 (nle rfl) (nle rfl) ?_
        exact x_ireturn DX11_small_50 rfl ⟨by rw [rs, if_neg (by grind [cSmall, hr])]; grind [cSmall, hr], by rw [rsM, if_neg (by grind [cSmall, hr])]; grind [cSmall, hr], by rw [sel, if_neg (by grind [cSmall, hr])], by rw [sel, if_neg (by grind [cSmall, hr])]⟩
  · refine x_aload_n 0 DX11_small_0 rfl rfl ?_
    refine x_getr 2 (some 4) DX11_small_1 (Or.inr F11_23) rfl rfl (hF.1 0 2 4 rfl) ?_
    refine x_iload_n 1 DX11_small_4 rfl rfl ?_
    by_cases f_b : 0 ≤ b ∧ b < nI nh
    · have b_b := nn_i f_b (by omega)
      refine x_Ve (ci := 3) (av := [vI a]) (rest := []) (st' := [vN]) 0 0 DX11_small_5 L11_139 rfl rfl rfl rfl rfl ⟨nle rfl, nle rfl, nle rfl⟩ ⟨rfl, nle rfl⟩ ⟨rfl, nle rfl⟩ (x_findN K a ι ρ Λ hF nh hH hn f_a) rfl ?_
      refine x_astore (lv' := [some (vR 0), some (vI a), some (vI b), some (vI c), some (vN), none, none]) DX11_small_8 ⟨nlt rfl, nlt rfl⟩ rfl ?_
      refine x_aload_n 0 DX11_small_10 rfl rfl ?_
      refine x_getr 2 (some 4) DX11_small_11 (Or.inr F11_23) rfl rfl (hF.1 0 2 4 rfl) ?_
      refine x_iload_n 2 DX11_small_14 rfl rfl ?_
      refine x_Ve (ci := 3) (av := [vI b]) (rest := []) (st' := [vR (100 + b.toNatClampNeg)]) 0 0 DX11_small_15 L11_139 rfl rfl rfl rfl rfl ⟨nle rfl, nle rfl, nle rfl⟩ ⟨rfl, nle rfl⟩ ⟨rfl, nle rfl⟩ (x_findH K b ι ρ Λ hF nh hH hn hAl f_b) rfl ?_
      refine x_astore (lv' := [some (vR 0), some (vI a), some (vI b), some (vI c), some (vN), some (vR (100 + b.toNatClampNeg)), none]) DX11_small_18 ⟨nlt rfl, nlt rfl⟩ rfl ?_
      by_cases f_c : 0 ≤ c ∧ c < nI nh
      · have b_c := nn_i f_c (by omega)
        refine x_aload_n 0 DX11_small_20 rfl rfl ?_
        refine x_getr 2 (some 4) DX11_small_21 (Or.inr F11_23) rfl rfl (hF.1 0 2 4 rfl) ?_
        refine x_iload_n 3 DX11_small_24 rfl rfl ?_
        refine x_Ve (ci := 3) (av := [vI c]) (rest := []) (st' := [vR (100 + c.toNatClampNeg)]) 0 0 DX11_small_25 L11_139 rfl rfl rfl rfl rfl ⟨nle rfl, nle rfl, nle rfl⟩ ⟨rfl, nle rfl⟩ ⟨rfl, nle rfl⟩ (x_findH K c ι ρ Λ hF nh hH hn hAl f_c) rfl ?_
        refine x_astore (lv' := [some (vR 0), some (vI a), some (vI b), some (vI c), some (vN), some (vR (100 + b.toNatClampNeg)), some (vR (100 + c.toNatClampNeg))]) DX11_small_28 ⟨nlt rfl, nlt rfl⟩ rfl ?_
        refine x_aload DX11_small_30 rfl ?_
        refine x_ifnull 45 DX11_small_32 (by decide) (fun _ => ?_) (fun _ h => by cases h)
        refine x_aload_n 0 DX11_small_45 rfl rfl ?_
        refine x_iconst (-1) DX11_small_46 (by decide) ?_
        refine x_Ve (ci := 11) (av := [vI (-1)]) (rest := []) (st' := [vI (-1)]) 0 0 DX11_small_47 L11_72 rfl rfl rfl rfl rfl ⟨nle rfl, nle rfl, nle rfl⟩ ⟨rfl, nle rfl⟩ ⟨rfl, nle rfl⟩ (x_refuse K (-1) ι ρ Λ hF ⟨by decide, by decide⟩) rfl ?_
        refine x_nmι (fun ι47 e_ι47 => ?_)
        refine x_widen 3 15 (nle rfl) (nle rfl) ?_
        exact x_ireturn DX11_small_50 rfl ⟨by rw [rs, if_neg (by grind [cSmall, hr])]; grind [cSmall, hr], by rw [rsM, if_neg (by grind [cSmall, hr])]; grind [cSmall, hr], by rw [sel, if_neg (by grind [cSmall, hr])], by rw [sel, if_neg (by grind [cSmall, hr])]⟩
      · refine x_aload_n 0 DX11_small_20 rfl rfl ?_
        refine x_getr 2 (some 4) DX11_small_21 (Or.inr F11_23) rfl rfl (hF.1 0 2 4 rfl) ?_
        refine x_iload_n 3 DX11_small_24 rfl rfl ?_
        refine x_Ve (ci := 3) (av := [vI c]) (rest := []) (st' := [vN]) 0 0 DX11_small_25 L11_139 rfl rfl rfl rfl rfl ⟨nle rfl, nle rfl, nle rfl⟩ ⟨rfl, nle rfl⟩ ⟨rfl, nle rfl⟩ (x_findN K c ι ρ Λ hF nh hH hn f_c) rfl ?_
        refine x_astore (lv' := [some (vR 0), some (vI a), some (vI b), some (vI c), some (vN), some (vR (100 + b.toNatClampNeg)), some (vN)]) DX11_small_28 ⟨nlt rfl, nlt rfl⟩ rfl ?_
        refine x_aload DX11_small_30 rfl ?_
        refine x_ifnull 45 DX11_small_32 (by decide) (fun _ => ?_) (fun _ h => by cases h)
        refine x_aload_n 0 DX11_small_45 rfl rfl ?_
        refine x_iconst (-1) DX11_small_46 (by decide) ?_
        refine x_Ve (ci := 11) (av := [vI (-1)]) (rest := []) (st' := [vI (-1)]) 0 0 DX11_small_47 L11_72 rfl rfl rfl rfl rfl ⟨nle rfl, nle rfl, nle rfl⟩ ⟨rfl, nle rfl⟩ ⟨rfl, nle rfl⟩ (x_refuse K (-1) ι ρ Λ hF ⟨by decide, by decide⟩) rfl ?_
        refine x_nmι (fun ι47 e_ι47 => ?_)
        refine x_widen 3 15 (nle rfl) (nle rfl) ?_
        exact x_ireturn DX11_small_50 rfl ⟨by rw [rs, if_neg (by grind [cSmall, hr])]; grind [cSmall, hr], by rw [rsM, if_neg (by grind [cSmall, hr])]; grind [cSmall, hr], by rw [sel, if_neg (by grind [cSmall, hr])], by rw [sel, if_neg (by grind [cSmall, hr])]⟩
    · refine x_Ve (ci := 3) (av := [vI a]) (rest := []) (st' := [vN]) 0 0 DX11_small_5 L11_139 rfl rfl rfl rfl rfl ⟨nle rfl, nle rfl, nle rfl⟩ ⟨rfl, nle rfl⟩ ⟨rfl, nle rfl⟩ (x_findN K a ι ρ Λ hF nh hH hn f_a) rfl ?_
      refine x_astore (lv' := [some (vR 0), some (vI a), some (vI b), some (vI c), some (vN), none, none]) DX11_small_8 ⟨nlt rfl, nlt rfl⟩ rfl ?_
      refine x_aload_n 0 DX11_small_10 rfl rfl ?_
      refine x_getr 2 (some 4) DX11_small_11 (Or.inr F11_23) rfl rfl (hF.1 0 2 4 rfl) ?_
      refine x_iload_n 2 DX11_small_14 rfl rfl ?_
      refine x_Ve (ci := 3) (av := [vI b]) (rest := []) (st' := [vN]) 0 0 DX11_small_15 L11_139 rfl rfl rfl rfl rfl ⟨nle rfl, nle rfl, nle rfl⟩ ⟨rfl, nle rfl⟩ ⟨rfl, nle rfl⟩ (x_findN K b ι ρ Λ hF nh hH hn f_b) rfl ?_
      refine x_astore (lv' := [some (vR 0), some (vI a), some (vI b), some (vI c), some (vN), some (vN), none]) DX11_small_18 ⟨nlt rfl, nlt rfl⟩ rfl ?_
      by_cases f_c : 0 ≤ c ∧ c < nI nh
      · have b_c := nn_i f_c (by omega)
        refine x_aload_n 0 DX11_small_20 rfl rfl ?_
        refine x_getr 2 (some 4) DX11_small_21 (Or.inr F11_23) rfl rfl (hF.1 0 2 4 rfl) ?_
        refine x_iload_n 3 DX11_small_24 rfl rfl ?_
        refine x_Ve (ci := 3) (av := [vI c]) (rest := []) (st' := [vR (100 + c.toNatClampNeg)]) 0 0 DX11_small_25 L11_139 rfl rfl rfl rfl rfl ⟨nle rfl, nle rfl, nle rfl⟩ ⟨rfl, nle rfl⟩ ⟨rfl, nle rfl⟩ (x_findH K c ι ρ Λ hF nh hH hn hAl f_c) rfl ?_
        refine x_astore (lv' := [some (vR 0), some (vI a), some (vI b), some (vI c), some (vN), some (vN), some (vR (100 + c.toNatClampNeg))]) DX11_small_28 ⟨nlt rfl, nlt rfl⟩ rfl ?_
        refine x_aload DX11_small_30 rfl ?_
        refine x_ifnull 45 DX11_small_32 (by decide) (fun _ => ?_) (fun _ h => by cases h)
        refine x_aload_n 0 DX11_small_45 rfl rfl ?_
        refine x_iconst (-1) DX11_small_46 (by decide) ?_
        refine x_Ve (ci := 11) (av := [vI (-1)]) (rest := []) (st' := [vI (-1)]) 0 0 DX11_small_47 L11_72 rfl rfl rfl rfl rfl ⟨nle rfl, nle rfl, nle rfl⟩ ⟨rfl, nle rfl⟩ ⟨rfl, nle rfl⟩ (x_refuse K (-1) ι ρ Λ hF ⟨by decide, by decide⟩) rfl ?_
        refine x_nmι (fun ι47 e_ι47 => ?_)
        refine x_widen 3 15 (nle rfl) (nle rfl) ?_
        exact x_ireturn DX11_small_50 rfl ⟨by rw [rs, if_neg (by grind [cSmall, hr])]; grind [cSmall, hr], by rw [rsM, if_neg (by grind [cSmall, hr])]; grind [cSmall, hr], by rw [sel, if_neg (by grind [cSmall, hr])], by rw [sel, if_neg (by grind [cSmall, hr])]⟩
      · refine x_aload_n 0 DX11_small_20 rfl rfl ?_
        refine x_getr 2 (some 4) DX11_small_21 (Or.inr F11_23) rfl rfl (hF.1 0 2 4 rfl) ?_
        refine x_iload_n 3 DX11_small_24 rfl rfl ?_
        refine x_Ve (ci := 3) (av := [vI c]) (rest := []) (st' := [vN]) 0 0 DX11_small_25 L11_139 rfl rfl rfl rfl rfl ⟨nle rfl, nle rfl, nle rfl⟩ ⟨rfl, nle rfl⟩ ⟨rfl, nle rfl⟩ (x_findN K c ι ρ Λ hF nh hH hn f_c) rfl ?_
        refine x_astore (lv' := [some (vR 0), some (vI a), some (vI b), some (vI c), some (vN), some (vN), some (vN)]) DX11_small_28 ⟨nlt rfl, nlt rfl⟩ rfl ?_
        refine x_aload DX11_small_30 rfl ?_
        refine x_ifnull 45 DX11_small_32 (by decide) (fun _ => ?_) (fun _ h => by cases h)
        refine x_aload_n 0 DX11_small_45 rfl rfl ?_
        refine x_iconst (-1) DX11_small_46 (by decide) ?_
        refine x_Ve (ci := 11) (av := [vI (-1)]) (rest := []) (st' := [vI (-1)]) 0 0 DX11_small_47 L11_72 rfl rfl rfl rfl rfl ⟨nle rfl, nle rfl, nle rfl⟩ ⟨rfl, nle rfl⟩ ⟨rfl, nle rfl⟩ (x_refuse K (-1) ι ρ Λ hF ⟨by decide, by decide⟩) rfl ?_
        refine x_nmι (fun ι47 e_ι47 => ?_)
        refine x_widen 3 15 (nle rfl) (nle rfl) ?_
        exact x_ireturn DX11_small_50 rfl ⟨by rw [rs, if_neg (by grind [cSmall, hr])]; grind [cSmall, hr], by rw [rsM, if_neg (by grind [cSmall, hr])]; grind [cSmall, hr], by rw [sel, if_neg (by grind [cSmall, hr])], by rw [sel, if_neg (by grind [cSmall, hr])]⟩
