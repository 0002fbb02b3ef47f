/-! the model, XII: plan -/
theorem m_tries (K : gK) (ρ : gRm) (Λ : gLm) (hF : gFix ρ Λ) (ns nh : Nat) (hs8 : ns ≤ 8) (hn : nh ≤ 24) (P A : Nat → Nat) : ∀ (m k up dn led : Nat) (en : Int32) (ι : gIm), k + m = ns → okT ns nh P A k ι → up < 64 → dn < 256 → led ≤ k → (en = 0 ∨ en = 1) → gCe K (m + 3) 0 0 jX12_tries [vR 40, vI (nI k), vI (nI up), vI (nI dn), vI (nI led), vI en] ι ρ Λ none (mTr ns nh P A m k up dn led en ι) ρ Λ
  | 0, k, up, dn, led, en, ι, h1, h2, h3, h4, h5, h6 => m_tries0 K ρ Λ hF ns nh hs8 hn P A k up dn led en ι h1 h2 h3 h4 h5 h6
  | m + 1, k, up, dn, led, en, ι, h1, h2, h3, h4, h5, h6 => m_triesS K ρ Λ hF ns nh hs8 hn P A m (m_tries K ρ Λ hF ns nh hs8 hn P A m) k up dn led en ι h1 h2 h3 h4 h5 h6
theorem m_plans (K : gK)  (ι : gIm) (ρ : gRm) (Λ : gLm) (hF : gFix ρ Λ) (ns nh : Nat) (hs8 : ns ≤ 8) (hn : nh ≤ 24) (P A : Nat → Nat) (hT : okT ns nh P A 0 ι) : gCe K 12 0 0 jX12_plans [vR 40] ι ρ Λ none (mPlans ns nh P A ι) ρ Λ := by
  refine gC_of (by decide) (nle rfl) ?_
  obtain ⟨hS, hH, -⟩ := id hT
  refine x_aload_n 0 DX12_plans_0 rfl rfl ?_
  refine x_iconst (-1) DX12_plans_1 (by decide) ?_
  refine x_puti 41 DX12_plans_2 F12_222 rfl (Or.inl rfl) rfl (fun ι2 e_ι2 => ?_)
  refine x_iconst 0 DX12_plans_5 (by decide) ?_
  refine x_istore_n 1 (lv' := [some (vR 40), some (vI 0), none, none]) DX12_plans_6 rfl ⟨nlt rfl, nlt rfl⟩ rfl ?_
  refine x_iconst 0 DX12_plans_7 (by decide) ?_
  refine x_istore_n 2 (lv' := [some (vR 40), some (vI 0), some (vI 0), none]) DX12_plans_8 rfl ⟨nlt rfl, nlt rfl⟩ rfl ?_
  have e59 : ι2 59 = ι 59 := by rw [e_ι2, up2_ne _ _ _ (by decide)]
  have e69 : ι2 69 = ι 69 := by rw [e_ι2, up2_ne _ _ _ (by decide)]
  have e50 : ι2 50 = ι 50 := by rw [e_ι2, up2_ne _ _ _ (by decide)]
  have e44 : ι2 44 = ι 44 := by rw [e_ι2, up2_ne _ _ _ (by decide)]
  have e408 : ι2 40 8 = nI ns := by rw [e_ι2, up2_row, va_up_ne _ _ (by decide)]; exact hS
  have e404 : ι2 40 4 = nI nh := by rw [e_ι2, up2_row, va_up_ne _ _ (by decide)]; exact hH
  have hT2 : okT ns nh P A 0 ι2 := okT_of hT (by rw [e_ι2, up2_row, va_up_ne _ _ (by decide)]) (by rw [e_ι2, up2_row, va_up_ne _ _ (by decide)]) (by rw [e_ι2, up2_ne _ _ _ (by decide)]) (by rw [e_ι2, up2_ne _ _ _ (by decide)]) (by rw [e_ι2, up2_ne _ _ _ (by decide)])
  refine x_lv (lv' := [some (vR 40), some (vI (nI 0)), some (vI (nI 0)), none]) (lvS (lvI nI_0.symm (lvI nI_0.symm rfl))) ?_
  refine lp0 (W := fun p a => gX K none 12 0 0 jX12_plans 9 [some (vR 40), some (vI (nI a)), some (vI (nI p)), none] [] 0 0 ι2 ρ Λ (fun r2 a b c => r2 = none ∧ a = (mPlans ns nh P A ι) ∧ b = ρ ∧ c = Λ)) (fun p a => a ||| (if ι 59 p < 0 then 0 else 2 ^ p)) 6 (fun p a hp ih => ?_) 0 0 (by omega) ?_
  · refine x_iload_n 2 DX12_plans_9 rfl rfl ?_
    refine x_bipush 6 DX12_plans_10 (by decide) ?_
    refine x_icmp_ge 40 DX12_plans_12 (by decide) (fun c_12 => False.elim (by rw [show (6 : Int32) = nI 6 from rfl, nI_le1 (by omega) (by omega)] at c_12; omega)) (fun c_12 => ?_)
    refine x_iload_n 1 DX12_plans_15 rfl rfl ?_
    refine x_aload_n 0 DX12_plans_16 rfl rfl ?_
    refine x_getr 26 (some 59) DX12_plans_17 (Or.inr F12_65) rfl rfl (hF.1 40 26 59 rfl) ?_
    refine x_iload_n 2 DX12_plans_20 rfl rfl ?_
    refine x_iald (v := (ι 59 p)) p (nI_cl1 (by omega)) DX12_plans_21 rfl (gIn.fx hF (c := 59) (n := 6) rfl (gIn_nI (by omega) (by omega))) (by rw [e59]) ?_
    refine x_if_lt 31 DX12_plans_22 (by decide) (fun c_22 => ?_) (fun c_22 => ?_)
    · refine x_iconst 0 DX12_plans_31 (by decide) ?_
      refine x_ior DX12_plans_32 ?_
      rw [nI_or0]
      refine x_istore_n 1 (lv' := [some (vR 40), some (vI (nI (a ||| 0))), some (vI (nI p)), none]) DX12_plans_33 rfl ⟨nlt rfl, nlt rfl⟩ rfl ?_
      refine x_iinc ((nI p) + 1) (lv' := [some (vR 40), some (vI (nI (a ||| 0))), some (vI ((nI p) + 1)), none]) DX12_plans_34 rfl rfl (nlt rfl) rfl ?_
      refine x_goto 9 DX12_plans_37 (by decide) ?_
      refine x_lv (lv' := [some (vR 40), some (vI (nI (a ||| (if ι 59 p < 0 then 0 else 2 ^ p)))), some (vI (nI (p + 1))), none]) (lvS (lvI (by rw [if_pos (by grind)]) (lvI (nI_1 p) (lvS rfl)))) ?_
      exact ih
    · refine x_iconst 1 DX12_plans_25 (by decide) ?_
      refine x_iload_n 2 DX12_plans_26 rfl rfl ?_
      refine x_ishl DX12_plans_27 ?_
      rw [nI_shl p (by omega)]
      refine x_goto 32 DX12_plans_28 (by decide) ?_
      refine x_ior DX12_plans_32 ?_
      rw [nI_or]
      refine x_istore_n 1 (lv' := [some (vR 40), some (vI (nI (a ||| 2 ^ p))), some (vI (nI p)), none]) DX12_plans_33 rfl ⟨nlt rfl, nlt rfl⟩ rfl ?_
      refine x_iinc ((nI p) + 1) (lv' := [some (vR 40), some (vI (nI (a ||| 2 ^ p))), some (vI ((nI p) + 1)), none]) DX12_plans_34 rfl rfl (nlt rfl) rfl ?_
      refine x_goto 9 DX12_plans_37 (by decide) ?_
      refine x_lv (lv' := [some (vR 40), some (vI (nI (a ||| (if ι 59 p < 0 then 0 else 2 ^ p)))), some (vI (nI (p + 1))), none]) (lvS (lvI (by rw [if_neg (by grind)]) (lvI (nI_1 p) (lvS rfl)))) ?_
      exact ih
  · show gX K none 12 0 0 jX12_plans 9 [some (vR 40), some (vI (nI (upM ι))), some (vI (nI 6)), none] [] 0 0 ι2 ρ Λ (fun r2 a b c => r2 = none ∧ a = (mPlans ns nh P A ι) ∧ b = ρ ∧ c = Λ)
    refine x_iload_n 2 DX12_plans_9 rfl rfl ?_
    refine x_bipush 6 DX12_plans_10 (by decide) ?_
    refine x_icmp_ge 40 DX12_plans_12 (by decide) (fun c_12 => ?_) (fun c_12 => False.elim (c_12 (by rw [show (6 : Int32) = nI 6 from rfl]; exact nI_le (by omega) (by omega))))
    refine x_iconst 1 DX12_plans_40 (by decide) ?_
    refine x_istore_n 2 (lv' := [some (vR 40), some (vI (nI (upM ι))), some (vI 1), none]) DX12_plans_41 rfl ⟨nlt rfl, nlt rfl⟩ rfl ?_
    refine x_iconst 0 DX12_plans_42 (by decide) ?_
    refine x_istore_n 3 (lv' := [some (vR 40), some (vI (nI (upM ι))), some (vI 1), some (vI 0)]) DX12_plans_43 rfl ⟨nlt rfl, nlt rfl⟩ rfl ?_
    refine x_lv (lv' := [some (vR 40), some (vI (nI (upM ι))), some (vI 1), some (vI (nI 0))]) (lvS (lvS (lvS (lvI nI_0.symm rfl)))) ?_
    refine lp0 (W := fun s t => gX K none 12 0 0 jX12_plans 44 [some (vR 40), some (vI (nI (upM ι))), some (vI t), some (vI (nI s))] [] 0 0 ι2 ρ Λ (fun r2 a b c => r2 = none ∧ a = (mPlans ns nh P A ι) ∧ b = ρ ∧ c = Λ)) (fun s t => if ¬ t = 0 ∧ ι 69 s ≤ (sHands (ι 50) (ι 44) nh) then 1 else 0) ns (fun s t hs ih => ?_) 0 1 (by omega) ?_
    · refine x_iload_n 3 DX12_plans_44 rfl rfl ?_
      refine x_aload_n 0 DX12_plans_45 rfl rfl ?_
      refine x_geti (v := (nI ns)) 8 DX12_plans_46 (Or.inl F12_216) rfl rfl e408 ?_
      refine x_icmp_ge 81 DX12_plans_49 (by decide) (fun c_49 => False.elim (by rw [nI_le1 (by omega) (by omega)] at c_49; omega)) (fun c_49 => ?_)
      refine x_iload_n 2 DX12_plans_52 rfl rfl ?_
      refine x_if_eq 73 DX12_plans_53 (by decide) (fun c_53 => ?_) (fun c_53 => ?_)
      · refine x_iconst 0 DX12_plans_73 (by decide) ?_
        refine x_istore_n 2 (lv' := [some (vR 40), some (vI (nI (upM ι))), some (vI 0), some (vI (nI s))]) DX12_plans_74 rfl ⟨nlt rfl, nlt rfl⟩ rfl ?_
        refine x_iinc ((nI s) + 1) (lv' := [some (vR 40), some (vI (nI (upM ι))), some (vI 0), some (vI ((nI s) + 1))]) DX12_plans_75 rfl rfl (nlt rfl) rfl ?_
        refine x_goto 44 DX12_plans_78 (by decide) ?_
        refine x_lv (lv' := [some (vR 40), some (vI (nI (upM ι))), some (vI (if ¬ t = 0 ∧ ι 69 s ≤ (sHands (ι 50) (ι 44) nh) then (1 : Int32) else 0)), some (vI (nI (s + 1)))]) (lvS (lvS (lvI (by rw [if_neg (by grind)]) (lvI (nI_1 s) rfl)))) ?_
        exact ih
      · refine x_aload_n 0 DX12_plans_56 rfl rfl ?_
        refine x_getr 36 (some 69) DX12_plans_57 (Or.inr F12_95) rfl rfl (hF.1 40 36 69 rfl) ?_
        refine x_iload_n 3 DX12_plans_60 rfl rfl ?_
        refine x_iald (v := (ι 69 s)) s (nI_cl1 (by omega)) DX12_plans_61 rfl (gIn.fx hF (c := 69) (n := 12) rfl (gIn_nI (by omega) (by omega))) (by rw [e69]) ?_
        refine x_aload_n 0 DX12_plans_62 rfl rfl ?_
        have g := m_allHands K ι2 ρ Λ hF nh e404 hn
        rw [e50, e44] at g
        refine x_Ve (ci := 12) (av := []) (rest := [vI (ι 69 s)]) (st' := [vI (sHands (ι 50) (ι 44) nh), vI (ι 69 s)]) 0 0 DX12_plans_63 L12_155 rfl rfl rfl rfl rfl ⟨nle rfl, nle rfl, nle rfl⟩ ⟨rfl, nle rfl⟩ ⟨rfl, nle rfl⟩ (g) rfl ?_
        refine x_icmp_gt 73 DX12_plans_66 (by decide) (fun c_66 => ?_) (fun c_66 => ?_)
        · refine x_iconst 0 DX12_plans_73 (by decide) ?_
          refine x_istore_n 2 (lv' := [some (vR 40), some (vI (nI (upM ι))), some (vI 0), some (vI (nI s))]) DX12_plans_74 rfl ⟨nlt rfl, nlt rfl⟩ rfl ?_
          refine x_iinc ((nI s) + 1) (lv' := [some (vR 40), some (vI (nI (upM ι))), some (vI 0), some (vI ((nI s) + 1))]) DX12_plans_75 rfl rfl (nlt rfl) rfl ?_
          refine x_goto 44 DX12_plans_78 (by decide) ?_
          refine x_lv (lv' := [some (vR 40), some (vI (nI (upM ι))), some (vI (if ¬ t = 0 ∧ ι 69 s ≤ (sHands (ι 50) (ι 44) nh) then (1 : Int32) else 0)), some (vI (nI (s + 1)))]) (lvS (lvS (lvI (by rw [if_neg (by grind)]) (lvI (nI_1 s) rfl)))) ?_
          exact ih
        · refine x_iconst 1 DX12_plans_69 (by decide) ?_
          refine x_goto 74 DX12_plans_70 (by decide) ?_
          refine x_istore_n 2 (lv' := [some (vR 40), some (vI (nI (upM ι))), some (vI 1), some (vI (nI s))]) DX12_plans_74 rfl ⟨nlt rfl, nlt rfl⟩ rfl ?_
          refine x_iinc ((nI s) + 1) (lv' := [some (vR 40), some (vI (nI (upM ι))), some (vI 1), some (vI ((nI s) + 1))]) DX12_plans_75 rfl rfl (nlt rfl) rfl ?_
          refine x_goto 44 DX12_plans_78 (by decide) ?_
          refine x_lv (lv' := [some (vR 40), some (vI (nI (upM ι))), some (vI (if ¬ t = 0 ∧ ι 69 s ≤ (sHands (ι 50) (ι 44) nh) then (1 : Int32) else 0)), some (vI (nI (s + 1)))]) (lvS (lvS (lvI (by rw [if_pos ⟨by assumption, Int32.not_lt.mp (by assumption)⟩]) (lvI (nI_1 s) rfl)))) ?_
          exact ih
    · generalize hme : fo (fun s t => if ¬ t = 0 ∧ ι 69 s ≤ (sHands (ι 50) (ι 44) nh) then 1 else 0) (ns - 0) 0 (1 : Int32) = mm
      have hme2 : mayM ι (sHands (ι 50) (ι 44) nh) ns = mm := hme
      show gX K none 12 0 0 jX12_plans 44 [some (vR 40), some (vI (nI (upM ι))), some (vI mm), some (vI (nI ns))] [] 0 0 ι2 ρ Λ (fun r2 a b c => r2 = none ∧ a = (mPlans ns nh P A ι) ∧ b = ρ ∧ c = Λ)
      refine x_iload_n 3 DX12_plans_44 rfl rfl ?_
      refine x_aload_n 0 DX12_plans_45 rfl rfl ?_
      refine x_geti (v := (nI ns)) 8 DX12_plans_46 (Or.inl F12_216) rfl rfl e408 ?_
      refine x_icmp_ge 81 DX12_plans_49 (by decide) (fun c_49 => ?_) (fun c_49 => False.elim (c_49 (nI_le (by omega) (by omega))))
      refine x_iload_n 2 DX12_plans_81 rfl rfl ?_
      refine x_if_eq 94 DX12_plans_82 (by decide) (fun c_82 => ?_) (fun c_82 => ?_)
      · exact x_return DX12_plans_94 rfl ⟨rfl, by rw [mPlans, hme2, if_pos (by assumption)]; exact e_ι2, rfl, rfl⟩
      · refine x_aload_n 0 DX12_plans_85 rfl rfl ?_
        refine x_iconst 0 DX12_plans_86 (by decide) ?_
        refine x_iload_n 1 DX12_plans_87 rfl rfl ?_
        refine x_iconst 0 DX12_plans_88 (by decide) ?_
        refine x_iconst 0 DX12_plans_89 (by decide) ?_
        refine x_iconst 0 DX12_plans_90 (by decide) ?_
        have g := m_tries K ρ Λ hF ns nh hs8 hn P A ns 0 (upM ι) 0 0 0 ι2 (by omega) hT2 (upM_lt ι) (by omega) (by omega) (Or.inl rfl)
        rw [nI_0] at g
        refine x_Ve (ci := 12) (av := [vI 0, vI (nI (upM ι)), vI 0, vI 0, vI 0]) (rest := []) (st' := []) 0 0 DX12_plans_91 L12_228 rfl rfl rfl rfl rfl ⟨by omega, nle rfl, nle rfl⟩ ⟨rfl, nle rfl⟩ ⟨rfl, nle rfl⟩ (g) rfl ?_
        refine x_nmι (fun ι91 e_ι91 => ?_)
        exact x_return DX12_plans_94 rfl ⟨rfl, by rw [mPlans, hme2, if_neg (by assumption), ← e_ι2]; exact e_ι91, rfl, rfl⟩
theorem m_plan (K : gK)  (ι : gIm) (ρ : gRm) (Λ : gLm) (hF : gFix ρ Λ) (ns nh : Nat) (hs12 : ns ≤ 12) (hn : nh ≤ 24) (P A : Nat → Nat) (hS : ι 40 8 = nI ns) (hT : ns ≤ 8 → okT ns nh P A 0 ι) : gCe K 13 0 0 jX12_plan [vR 40] ι ρ Λ (some (vI (rs (cPlan (nI ns)) (vDaysM (mPlans ns nh P A ι))))) (rsM (cPlan (nI ns)) 41 ι (mPlans ns nh P A ι)) ρ Λ := by
  refine gC_of (by decide) (nle rfl) ?_
  refine x_aload_n 0 DX12_plan_0 rfl rfl ?_
  refine x_geti (v := (nI ns)) 8 DX12_plan_1 (Or.inl F12_216) rfl rfl hS ?_
  refine x_bipush 8 DX12_plan_4 (by decide) ?_
  refine x_icmp_le 16 DX12_plan_6 (by decide) (fun c_6 => ?_) (fun c_6 => ?_)
  · refine x_aload_n 0 DX12_plan_16 rfl rfl ?_
    have hs8 : ns ≤ 8 := by rw [show (8 : Int32) = nI 8 from rfl, nI_le1 (by omega) (by omega)] at c_6; exact c_6
    refine x_Ve (ci := 12) (av := []) (rest := []) (st' := []) 0 0 DX12_plan_17 L12_232 rfl rfl rfl rfl rfl ⟨nle rfl, nle rfl, nle rfl⟩ ⟨rfl, nle rfl⟩ ⟨rfl, nle rfl⟩ (m_plans K ι ρ Λ hF ns nh hs8 hn P A (hT hs8)) rfl ?_
    refine x_nmι (fun ι17 e_ι17 => ?_)
    refine x_aload_n 0 DX12_plan_20 rfl rfl ?_
    refine x_geti (v := (ι17 40 41)) 41 DX12_plan_21 (Or.inl F12_222) rfl rfl rfl ?_
    refine x_if_ge 32 DX12_plan_24 (by decide) (fun c_24 => ?_) (fun c_24 => ?_)
    · refine x_aload_n 0 DX12_plan_32 rfl rfl ?_
      refine x_geti (v := (ι17 40 41)) 41 DX12_plan_33 (Or.inl F12_222) rfl rfl rfl ?_
      exact x_ireturn DX12_plan_36 rfl ⟨by rw [rs, if_pos (by grind [cPlan])]; subst_vars; grind [vDaysM], by rw [rsM, if_pos (by grind [cPlan])]; assumption, rfl, rfl⟩
    · refine x_bipush (-9) DX12_plan_27 (by decide) ?_
      refine x_goto 36 DX12_plan_29 (by decide) ?_
      exact x_ireturn DX12_plan_36 rfl ⟨by rw [rs, if_pos (by grind [cPlan])]; subst_vars; grind [vDaysM], by rw [rsM, if_pos (by grind [cPlan])]; assumption, rfl, rfl⟩
  · refine x_aload_n 0 DX12_plan_9 rfl rfl ?_
    refine x_bipush (-6) DX12_plan_10 (by decide) ?_
    refine x_Ve (ci := 12) (av := [vI (-6)]) (rest := []) (st' := [vI (-6)]) 0 0 DX12_plan_12 L12_120 rfl rfl rfl rfl rfl ⟨nle rfl, nle rfl, nle rfl⟩ ⟨rfl, nle rfl⟩ ⟨rfl, nle rfl⟩ (m_refuse K (-6) ι ρ Λ hF ⟨by decide, by decide⟩) rfl ?_
    refine x_nmι (fun ι12 e_ι12 => ?_)
    exact x_ireturn DX12_plan_15 rfl ⟨by grind [cPlan, rs], by grind [cPlan, rsM], rfl, rfl⟩
theorem m_planAt (K : gK) (k : Int32) (ι : gIm) (ρ : gRm) (Λ : gLm) (hF : gFix ρ Λ) (ns nh : Nat) (hs12 : ns ≤ 12) (hn : nh ≤ 24) (P A : Nat → Nat) (hS : ι 40 8 = nI ns) (hT : ns ≤ 8 → okT ns nh P A 0 ι) : gCe K 13 0 0 jX12_planAt [vR 40, vI k] ι ρ Λ (some (vI (rs (cPlan (nI ns)) (vStepM (mPlans ns nh P A ι) k (nI ns))))) (rsM (cPlan (nI ns)) 41 ι (mPlans ns nh P A ι)) ρ Λ := by
  refine gC_of (by decide) (nle rfl) ?_
  refine x_aload_n 0 DX12_planAt_0 rfl rfl ?_
  refine x_geti (v := (nI ns)) 8 DX12_planAt_1 (Or.inl F12_216) rfl rfl hS ?_
  refine x_bipush 8 DX12_planAt_4 (by decide) ?_
  refine x_icmp_le 16 DX12_planAt_6 (by decide) (fun c_6 => ?_) (fun c_6 => ?_)
  · refine x_aload_n 0 DX12_planAt_16 rfl rfl ?_
    have hs8 : ns ≤ 8 := by rw [show (8 : Int32) = nI 8 from rfl, nI_le1 (by omega) (by omega)] at c_6; exact c_6
    refine x_Ve (ci := 12) (av := []) (rest := []) (st' := []) 0 0 DX12_planAt_17 L12_232 rfl rfl rfl rfl rfl ⟨nle rfl, nle rfl, nle rfl⟩ ⟨rfl, nle rfl⟩ ⟨rfl, nle rfl⟩ (m_plans K ι ρ Λ hF ns nh hs8 hn P A (hT hs8)) rfl ?_
    refine x_nmι (fun ι17 e_ι17 => ?_)
    refine x_aload_n 0 DX12_planAt_20 rfl rfl ?_
    refine x_geti (v := (ι17 40 41)) 41 DX12_planAt_21 (Or.inl F12_222) rfl rfl rfl ?_
    refine x_if_lt 47 DX12_planAt_24 (by decide) (fun c_24 => ?_) (fun c_24 => ?_)
    · refine x_bipush (-9) DX12_planAt_47 (by decide) ?_
      exact x_ireturn DX12_planAt_49 rfl ⟨by rw [rs, if_pos (by grind [cPlan])]; subst_vars; grind [vStepM], by rw [rsM, if_pos (by grind [cPlan])]; assumption, rfl, rfl⟩
    · refine x_iload_n 1 DX12_planAt_27 rfl rfl ?_
      refine x_aload_n 0 DX12_planAt_28 rfl rfl ?_
      refine x_geti (v := (nI ns)) 8 DX12_planAt_29 (Or.inl F12_216) rfl rfl (by rw [e_ι17]; exact (okT_plans hs8 (hT hs8)).1) ?_
      refine x_Se (av := [vI k, vI (nI ns)]) (rest := []) (st' := [vI (b2i (0 ≤ k ∧ k < (nI ns)))]) 0 0 DX12_planAt_32 L12_124 rfl rfl ⟨nle rfl, nle rfl, nle rfl⟩ ⟨rfl, nle rfl⟩ ⟨rfl, nle rfl⟩ (m_isIn K k (nI ns) ι17 ρ Λ) rfl ?_
      refine x_if_eq_b 47 DX12_planAt_35 (by decide) (fun c_35 => ?_) (fun c_35 => ?_)
      · refine x_bipush (-9) DX12_planAt_47 (by decide) ?_
        exact x_ireturn DX12_planAt_49 rfl ⟨by rw [rs, if_pos (by grind [cPlan])]; subst_vars; grind [vStepM], by rw [rsM, if_pos (by grind [cPlan])]; assumption, rfl, rfl⟩
      · refine x_aload_n 0 DX12_planAt_38 rfl rfl ?_
        refine x_getr 39 (some 72) DX12_planAt_39 (Or.inr F12_104) rfl rfl (hF.1 40 39 72 rfl) ?_
        refine x_iload_n 1 DX12_planAt_42 rfl rfl ?_
        refine x_iald (v := (ι17 72 k.toNatClampNeg)) k.toNatClampNeg rfl DX12_planAt_43 rfl (gIn.fx hF (c := 72) (n := 8) rfl (gIn_le 8 (by assumption) (by rw [show (8 : Int32) = nI 8 from rfl]; exact nI_le hs8 (by omega)) rfl)) rfl ?_
        refine x_goto 49 DX12_planAt_44 (by decide) ?_
        exact x_ireturn DX12_planAt_49 rfl ⟨by rw [rs, if_pos (by grind [cPlan])]; subst_vars; grind [vStepM], by rw [rsM, if_pos (by grind [cPlan])]; assumption, rfl, rfl⟩
  · refine x_aload_n 0 DX12_planAt_9 rfl rfl ?_
    refine x_bipush (-6) DX12_planAt_10 (by decide) ?_
    refine x_Ve (ci := 12) (av := [vI (-6)]) (rest := []) (st' := [vI (-6)]) 0 0 DX12_planAt_12 L12_120 rfl rfl rfl rfl rfl ⟨nle rfl, nle rfl, nle rfl⟩ ⟨rfl, nle rfl⟩ ⟨rfl, nle rfl⟩ (m_refuse K (-6) ι ρ Λ hF ⟨by decide, by decide⟩) rfl ?_
    refine x_nmι (fun ι12 e_ι12 => ?_)
    exact x_ireturn DX12_planAt_15 rfl ⟨by grind [cPlan, rs], by grind [cPlan, rsM], rfl, rfl⟩
