/-! the model, X: the end of a row -/
theorem m_tries0 (K : gK) (ρ : gRm) (Λ : gLm) (hF : gFix ρ Λ) (ns nh : Nat) (hs8 : ns ≤ 8) (hn : nh ≤ 24) (P A : Nat → Nat) (k up dn led : Nat) (en : Int32) (ι : gIm) (hk : k + 0 = ns) (hT : okT ns nh P A k ι) (hu : up < 64) (hd : dn < 256) (hl : led ≤ k) (he : en = 0 ∨ en = 1) : gCe K (0 + 3) 0 0 jX12_tries [vR 40, vI (nI k), vI (nI up), vI (nI dn), vI (nI led), vI en] ι ρ Λ none (mTr ns nh P A 0 k up dn led en ι) ρ Λ := by
  refine gC_of (by decide) (nle rfl) ?_
  obtain ⟨hS, hH, hPl, hAf, hRow⟩ := id hT
  have hk2 : k = ns := by omega
  subst hk2
  rw [mTr]
  refine x_iload_n 1 DX12_tries_0 rfl rfl ?_
  refine x_aload_n 0 DX12_tries_1 rfl rfl ?_
  refine x_geti (v := (nI k)) 8 DX12_tries_2 (Or.inl F12_216) rfl rfl hS ?_
  refine x_icmp_ne 67 DX12_tries_5 (by decide) (fun c_5 => False.elim (c_5 rfl)) (fun c_5 => ?_)
  refine x_aload_n 0 DX12_tries_8 rfl rfl ?_
  have g := m_daysOf K ι ρ Λ hF nh hH hn k hS hs8 hRow
  obtain ⟨z0, hz0⟩ : ∃ z0, z0 = (mDy (sHands (ι 50) (ι 44) nh) k ι) := ⟨_, rfl⟩
  rw [← hz0] at g
  refine x_Ve (ci := 12) (av := []) (rest := []) (st' := [vI (z0 73 k)]) 0 0 DX12_tries_9 L12_219 rfl rfl rfl rfl rfl ⟨nle rfl, nle rfl, nle rfl⟩ ⟨rfl, nle rfl⟩ ⟨rfl, nle rfl⟩ (g) rfl ?_
  refine x_istore (lv' := [some (vR 40), some (vI (nI k)), some (vI (nI up)), some (vI (nI dn)), some (vI (nI led)), some (vI en), some (vI (z0 73 k)), none, none, none, none, none]) DX12_tries_12 ⟨nlt rfl, nlt rfl⟩ rfl ?_
  refine x_aload_n 0 DX12_tries_14 rfl rfl ?_
  refine x_geti (v := (z0 40 41)) 41 DX12_tries_15 (Or.inl F12_222) rfl rfl rfl ?_
  refine x_if_lt 31 DX12_tries_18 (by decide) (fun c_18 => ?_) (fun c_18 => ?_)
  · refine x_aload_n 0 DX12_tries_31 rfl rfl ?_
    refine x_iload DX12_tries_32 rfl ?_
    refine x_puti 41 DX12_tries_34 F12_222 rfl (Or.inl rfl) rfl (fun ι34 e_ι34 => ?_)
    refine x_iconst 0 DX12_tries_37 (by decide) ?_
    refine x_istore (lv' := [some (vR 40), some (vI (nI k)), some (vI (nI up)), some (vI (nI dn)), some (vI (nI led)), some (vI en), some (vI (z0 73 k)), some (vI 0), none, none, none, none]) DX12_tries_38 ⟨nlt rfl, nlt rfl⟩ rfl ?_
    have hzb : mBest k nh ι = va_up (up2 z0 40 41 (z0 73 k)) 72 (fil (z0 71) k (z0 72)) := by unfold mBest; rw [← hz0]; exact if_neg (by grind)
    refine x_lv (lv' := [some (vR 40), some (vI (nI k)), some (vI (nI up)), some (vI (nI dn)), some (vI (nI led)), some (vI en), some (vI (z0 73 k)), some (vI (nI 0)), none, none, none, none]) (lvS (lvS (lvS (lvS (lvS (lvS (lvS (lvI nI_0.symm (lvS (lvS (lvS (lvS rfl)))))))))))) ?_
    refine lpn (W := fun i => ∀ z, z = va_up (up2 z0 40 41 (z0 73 k)) 72 (fil (z0 71) i (z0 72)) → gX K none 3 0 0 jX12_tries 40 [some (vR 40), some (vI (nI k)), some (vI (nI up)), some (vI (nI dn)), some (vI (nI led)), some (vI en), some (vI (z0 73 k)), some (vI (nI i)), none, none, none, none] [] 0 0 z ρ Λ _) k (fun i hi ihi z hz => ?_) 0 (by omega) ?_ _ (by rw [e_ι34, fil_0, show z0 72 = (up2 z0 40 41 (z0 73 k)) 72 from by rw [up2_ne _ _ _ (by decide)], va_up_id])
    · refine x_iload DX12_tries_40 rfl ?_
      refine x_iload_n 1 DX12_tries_42 rfl rfl ?_
      refine x_icmp_ge 66 DX12_tries_43 (by decide) (fun c_43 => False.elim (by rw [nI_le1 (by omega) (by omega)] at c_43; omega)) (fun c_43 => ?_)
      refine x_aload_n 0 DX12_tries_46 rfl rfl ?_
      refine x_getr 39 (some 72) DX12_tries_47 (Or.inr F12_104) rfl rfl (hF.1 40 39 72 rfl) ?_
      refine x_iload DX12_tries_50 rfl ?_
      refine x_aload_n 0 DX12_tries_52 rfl rfl ?_
      refine x_getr 38 (some 71) DX12_tries_53 (Or.inr F12_101) rfl rfl (hF.1 40 38 71 rfl) ?_
      refine x_iload DX12_tries_56 rfl ?_
      refine x_iald (v := (z0 71 i)) i (nI_cl1 (by omega)) DX12_tries_58 rfl (gIn.fx hF (c := 71) (n := 8) rfl (gIn_nI (by omega) (by omega))) (by rw [hz, va_up_ne _ _ (by decide), up2_ne _ _ _ (by decide)]) ?_
      refine x_iast i (nI_cl1 (by omega)) DX12_tries_59 rfl (gIn.fx hF (c := 72) (n := 8) rfl (gIn_nI (by omega) (by omega))) (fun ι59 e_ι59 => ?_)
      refine x_iinc ((nI i) + 1) (lv' := [some (vR 40), some (vI (nI k)), some (vI (nI up)), some (vI (nI dn)), some (vI (nI led)), some (vI en), some (vI (z0 73 k)), some (vI ((nI i) + 1)), none, none, none, none]) DX12_tries_60 rfl rfl (nlt rfl) rfl ?_
      refine x_goto 40 DX12_tries_63 (by decide) ?_
      refine x_lv (lv' := [some (vR 40), some (vI (nI k)), some (vI (nI up)), some (vI (nI dn)), some (vI (nI led)), some (vI en), some (vI (z0 73 k)), some (vI (nI (i + 1))), none, none, none, none]) (lvS (lvS (lvS (lvS (lvS (lvS (lvS (lvI (nI_1 i) (lvS (lvS (lvS (lvS rfl)))))))))))) ?_
      exact ihi _ (by rw [e_ι59, hz]; exact up2_fil (up2 z0 40 41 (z0 73 k)) 72 i (z0 71) (z0 72))
    · intro z hz
      refine x_iload DX12_tries_40 rfl ?_
      refine x_iload_n 1 DX12_tries_42 rfl rfl ?_
      refine x_icmp_ge 66 DX12_tries_43 (by decide) (fun c_43 => ?_) (fun c_43 => False.elim (c_43 (nI_le (by omega) (by omega))))
      exact x_return DX12_tries_66 rfl ⟨rfl, by rw [hzb, hz], rfl, rfl⟩
  · refine x_iload DX12_tries_21 rfl ?_
    refine x_aload_n 0 DX12_tries_23 rfl rfl ?_
    refine x_geti (v := (z0 40 41)) 41 DX12_tries_24 (Or.inl F12_222) rfl rfl rfl ?_
    refine x_icmp_lt 31 DX12_tries_27 (by decide) (fun c_27 => ?_) (fun c_27 => ?_)
    · refine x_aload_n 0 DX12_tries_31 rfl rfl ?_
      refine x_iload DX12_tries_32 rfl ?_
      refine x_puti 41 DX12_tries_34 F12_222 rfl (Or.inl rfl) rfl (fun ι34 e_ι34 => ?_)
      refine x_iconst 0 DX12_tries_37 (by decide) ?_
      refine x_istore (lv' := [some (vR 40), some (vI (nI k)), some (vI (nI up)), some (vI (nI dn)), some (vI (nI led)), some (vI en), some (vI (z0 73 k)), some (vI 0), none, none, none, none]) DX12_tries_38 ⟨nlt rfl, nlt rfl⟩ rfl ?_
      have hzb : mBest k nh ι = va_up (up2 z0 40 41 (z0 73 k)) 72 (fil (z0 71) k (z0 72)) := by unfold mBest; rw [← hz0]; exact if_neg (by grind)
      refine x_lv (lv' := [some (vR 40), some (vI (nI k)), some (vI (nI up)), some (vI (nI dn)), some (vI (nI led)), some (vI en), some (vI (z0 73 k)), some (vI (nI 0)), none, none, none, none]) (lvS (lvS (lvS (lvS (lvS (lvS (lvS (lvI nI_0.symm (lvS (lvS (lvS (lvS rfl)))))))))))) ?_
      refine lpn (W := fun i => ∀ z, z = va_up (up2 z0 40 41 (z0 73 k)) 72 (fil (z0 71) i (z0 72)) → gX K none 3 0 0 jX12_tries 40 [some (vR 40), some (vI (nI k)), some (vI (nI up)), some (vI (nI dn)), some (vI (nI led)), some (vI en), some (vI (z0 73 k)), some (vI (nI i)), none, none, none, none] [] 0 0 z ρ Λ _) k (fun i hi ihi z hz => ?_) 0 (by omega) ?_ _ (by rw [e_ι34, fil_0, show z0 72 = (up2 z0 40 41 (z0 73 k)) 72 from by rw [up2_ne _ _ _ (by decide)], va_up_id])
      · refine x_iload DX12_tries_40 rfl ?_
        refine x_iload_n 1 DX12_tries_42 rfl rfl ?_
        refine x_icmp_ge 66 DX12_tries_43 (by decide) (fun c_43 => False.elim (by rw [nI_le1 (by omega) (by omega)] at c_43; omega)) (fun c_43 => ?_)
        refine x_aload_n 0 DX12_tries_46 rfl rfl ?_
        refine x_getr 39 (some 72) DX12_tries_47 (Or.inr F12_104) rfl rfl (hF.1 40 39 72 rfl) ?_
        refine x_iload DX12_tries_50 rfl ?_
        refine x_aload_n 0 DX12_tries_52 rfl rfl ?_
        refine x_getr 38 (some 71) DX12_tries_53 (Or.inr F12_101) rfl rfl (hF.1 40 38 71 rfl) ?_
        refine x_iload DX12_tries_56 rfl ?_
        refine x_iald (v := (z0 71 i)) i (nI_cl1 (by omega)) DX12_tries_58 rfl (gIn.fx hF (c := 71) (n := 8) rfl (gIn_nI (by omega) (by omega))) (by rw [hz, va_up_ne _ _ (by decide), up2_ne _ _ _ (by decide)]) ?_
        refine x_iast i (nI_cl1 (by omega)) DX12_tries_59 rfl (gIn.fx hF (c := 72) (n := 8) rfl (gIn_nI (by omega) (by omega))) (fun ι59 e_ι59 => ?_)
        refine x_iinc ((nI i) + 1) (lv' := [some (vR 40), some (vI (nI k)), some (vI (nI up)), some (vI (nI dn)), some (vI (nI led)), some (vI en), some (vI (z0 73 k)), some (vI ((nI i) + 1)), none, none, none, none]) DX12_tries_60 rfl rfl (nlt rfl) rfl ?_
        refine x_goto 40 DX12_tries_63 (by decide) ?_
        refine x_lv (lv' := [some (vR 40), some (vI (nI k)), some (vI (nI up)), some (vI (nI dn)), some (vI (nI led)), some (vI en), some (vI (z0 73 k)), some (vI (nI (i + 1))), none, none, none, none]) (lvS (lvS (lvS (lvS (lvS (lvS (lvS (lvI (nI_1 i) (lvS (lvS (lvS (lvS rfl)))))))))))) ?_
        exact ihi _ (by rw [e_ι59, hz]; exact up2_fil (up2 z0 40 41 (z0 73 k)) 72 i (z0 71) (z0 72))
      · intro z hz
        refine x_iload DX12_tries_40 rfl ?_
        refine x_iload_n 1 DX12_tries_42 rfl rfl ?_
        refine x_icmp_ge 66 DX12_tries_43 (by decide) (fun c_43 => ?_) (fun c_43 => False.elim (c_43 (nI_le (by omega) (by omega))))
        exact x_return DX12_tries_66 rfl ⟨rfl, by rw [hzb, hz], rfl, rfl⟩
    · exact x_return DX12_tries_30 rfl ⟨rfl, by unfold mBest; rw [← hz0]; exact (if_pos ⟨by assumption, Int32.not_lt.mp (by assumption)⟩).symm, rfl, rfl⟩
