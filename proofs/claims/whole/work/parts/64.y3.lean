/-! the model, XI: all rows -/
theorem m_triesS (K : gK) (ρ : gRm) (Λ : gLm) (hF : gFix ρ Λ) (ns nh : Nat) (hs8 : ns ≤ 8) (hn : nh ≤ 24) (P A : Nat → Nat) (m : Nat) (ih : ∀ (k up dn led : Nat) (en : Int32) (ι : gIm), k + m = ns → okT ns nh P A k ι → up < 64 → dn < 256 → led ≤ k → (en = 0 ∨ en = 1) → gCe K (m + 3) 0 0 jX12_tries [vR 40, vI (nI k), vI (nI up), vI (nI dn), vI (nI led), vI en] ι ρ Λ none (mTr ns nh P A m k up dn led en ι) ρ Λ) (k up dn led : Nat) (en : Int32) (ι : gIm) (hk : k + (m + 1) = ns) (hT : okT ns nh P A k ι) (hu : up < 64) (hd : dn < 256) (hl : led ≤ k) (he : en = 0 ∨ en = 1) : gCe K (m + 1 + 3) 0 0 jX12_tries [vR 40, vI (nI k), vI (nI up), vI (nI dn), vI (nI led), vI en] ι ρ Λ none (mTr ns nh P A (m + 1) k up dn led en ι) ρ Λ := by
  refine gC_of (by decide) (nle rfl) ?_
  obtain ⟨hS, hH, -⟩ := id hT
  refine x_iload_n 1 DX12_tries_0 rfl rfl ?_
  refine x_aload_n 0 DX12_tries_1 rfl rfl ?_
  refine x_geti (v := (nI ns)) 8 DX12_tries_2 (Or.inl F12_216) rfl rfl hS ?_
  refine x_icmp_ne 67 DX12_tries_5 (by decide) (fun c_5 => ?_) (fun c_5 => False.elim (by rw [nI_eq (by omega) (by omega)] at c_5; omega))
  refine x_iconst 0 DX12_tries_67 (by decide) ?_
  refine x_istore (lv' := [some (vR 40), some (vI (nI k)), some (vI (nI up)), some (vI (nI dn)), some (vI (nI led)), some (vI en), some (vI 0), none, none, none, none, none]) DX12_tries_68 ⟨nlt rfl, nlt rfl⟩ rfl ?_
  refine x_lv (lv' := [some (vR 40), some (vI (nI k)), some (vI (nI up)), some (vI (nI dn)), some (vI (nI led)), some (vI en), some (vI (nI 0)), none, none, none, none, none]) (lvS (lvS (lvS (lvS (lvS (lvS (lvI nI_0.symm rfl))))))) ?_
  refine lpJ (W := fun (s : Nat) (z : gIm) => gX K none (m + 1 + 3) 0 0 jX12_tries 70 [some (vR 40), some (vI (nI k)), some (vI (nI up)), some (vI (nI dn)), some (vI (nI led)), some (vI en), some (vI (nI s)), none, none, none, none, none] [] 0 0 z ρ Λ (fun r2 a b c => r2 = none ∧ a = (mTr ns nh P A (m + 1) k up dn led en ι) ∧ b = ρ ∧ c = Λ)) (fun s z => if okTr z P A up dn led en s = true then mTr ns nh P A m (k + 1) (thN z P up s) (dn ||| 2 ^ s) (ldN z led s) (enN z P up en s) (up2 z 71 k (nI s)) else z) (fun _ z => okT ns nh P A k z) ns (fun s z hs hJ ihs => ?_) (fun s z hs hJ => by have h9 := okT_tr (P := P) (A := A) (nh := nh) hs8 m (k + 1) (thN z P up s) (dn ||| 2 ^ s) (ldN z led s) (enN z P up en s) _ (okT_up hJ hs hs8); split; exact ⟨h9.1, h9.2.1, h9.2.2.1, h9.2.2.2.1, fun j hj => h9.2.2.2.2 j (by omega)⟩; exact hJ) 0 ι (by omega) hT (fun hJ => ?_)
  · obtain ⟨hz8, hz4, hzP, hzA, hzR⟩ := id hJ
    have hPs := (hzP s hs).1
    have hP6 := (hzP s hs).2
    have hAs := (hzA s hs).1
    have hA8 := (hzA s hs).2
    have hp64 : 2 ^ P s < 64 := Nat.pow_lt_pow_right (a := 2) (n := 6) (by omega) hP6
    have hs2 := two8 (show s < 8 by omega)
    have hu1 : (up ||| 2 ^ P s) < 64 := Nat.or_lt_two_pow (n := 6) hu hp64
    have hu2 : (up &&& (255 ^^^ 2 ^ P s)) < 64 := and_lt hu
    have hc1 : A s &&& (255 ^^^ dn) < 256 := and_lt hA8
    have hc2 : up &&& 2 ^ P s < 64 := and_lt hu
    refine x_iload DX12_tries_70 rfl ?_
    refine x_aload_n 0 DX12_tries_72 rfl rfl ?_
    refine x_geti (v := (nI ns)) 8 DX12_tries_73 (Or.inl F12_216) rfl rfl hz8 ?_
    refine x_icmp_ge 315 DX12_tries_76 (by decide) (fun c_76 => False.elim (by rw [nI_le1 (by omega) (by omega)] at c_76; omega)) (fun c_76 => ?_)
    refine x_iload_n 3 DX12_tries_79 rfl rfl ?_
    refine x_iload DX12_tries_80 rfl ?_
    refine x_ishr DX12_tries_82 ?_
    refine x_iconst 1 DX12_tries_83 (by decide) ?_
    refine x_iand DX12_tries_84 ?_
    rw [nI_bit s (by omega) dn hd]
    refine x_iconst 1 DX12_tries_85 (by decide) ?_
    refine x_icmp_eq 309 DX12_tries_86 (by decide) (fun c_86 => ?_) (fun c_86 => ?_)
    · rw [nI_e1 (by omega)] at c_86
      refine x_iinc ((nI s) + 1) (lv' := [some (vR 40), some (vI (nI k)), some (vI (nI up)), some (vI (nI dn)), some (vI (nI led)), some (vI en), some (vI ((nI s) + 1)), none, none, none, none, none]) DX12_tries_309 rfl rfl (nlt rfl) rfl ?_
      refine x_goto 70 DX12_tries_312 (by decide) ?_
      refine x_less (lv' := [some (vR 40), some (vI (nI k)), some (vI (nI up)), some (vI (nI dn)), some (vI (nI led)), some (vI en), some (vI ((nI s) + 1)), none, none, none, none, none]) (less_ok (m := [true, true, true, true, true, true, true, false, false, false, false, false]) rfl) ?_
      refine x_lv (lv' := [some (vR 40), some (vI (nI k)), some (vI (nI up)), some (vI (nI dn)), some (vI (nI led)), some (vI en), some (vI (nI (s + 1))), none, none, none, none, none]) (lvS (lvS (lvS (lvS (lvS (lvS (lvI (nI_1 s) (lvS (lvS (lvS (lvS (lvS rfl)))))))))))) ?_
      have ho : okTr z P A up dn led en s = false := by first | (simp [okTr, stB, thN, *]; done) | (clear ih ihs; grind [okTr, stB, thN])
      rw [ho, if_neg (by decide)] at ihs
      exact ihs
    · rw [nI_e1 (by omega)] at c_86
      refine x_aload_n 0 DX12_tries_89 rfl rfl ?_
      refine x_getr 37 (some 70) DX12_tries_90 (Or.inr F12_98) rfl rfl (hF.1 40 37 70 rfl) ?_
      refine x_iload DX12_tries_93 rfl ?_
      refine x_iald (v := (nI (A s))) s (nI_cl1 (by omega)) DX12_tries_95 rfl (gIn.fx hF (c := 70) (n := 12) rfl (gIn_nI (by omega) (by omega))) hAs ?_
      refine x_iload_n 3 DX12_tries_96 rfl rfl ?_
      refine x_iconst (-1) DX12_tries_97 (by decide) ?_
      refine x_ixor DX12_tries_98 ?_
      refine x_iand DX12_tries_99 ?_
      rw [nI_sub2 hA8 hd]
      refine x_if_eq 106 DX12_tries_100 (by decide) (fun c_100 => ?_) (fun c_100 => ?_)
      · rw [nI_eq0 (by omega)] at c_100
        refine x_iconst 1 DX12_tries_106 (by decide) ?_
        refine x_aload_n 0 DX12_tries_107 rfl rfl ?_
        refine x_getr 34 (some 67) DX12_tries_108 (Or.inr F12_89) rfl rfl (hF.1 40 34 67 rfl) ?_
        refine x_iload DX12_tries_111 rfl ?_
        refine x_iald (v := (nI (P s))) s (nI_cl1 (by omega)) DX12_tries_113 rfl (gIn.fx hF (c := 67) (n := 12) rfl (gIn_nI (by omega) (by omega))) hPs ?_
        refine x_ishl DX12_tries_114 ?_
        rw [nI_shl (P s) (by omega)]
        refine x_istore (lv' := [some (vR 40), some (vI (nI k)), some (vI (nI up)), some (vI (nI dn)), some (vI (nI led)), some (vI en), some (vI (nI s)), some (vI (nI (2 ^ P s))), none, none, none, none]) DX12_tries_115 ⟨nlt rfl, nlt rfl⟩ rfl ?_
        refine x_iload_n 2 DX12_tries_117 rfl rfl ?_
        refine x_iload DX12_tries_118 rfl ?_
        refine x_iand DX12_tries_120 ?_
        rw [nI_and]
        refine x_if_eq 128 DX12_tries_121 (by decide) (fun c_121 => ?_) (fun c_121 => ?_)
        · rw [nI_eq0 (by omega)] at c_121
          refine x_iconst 0 DX12_tries_128 (by decide) ?_
          refine x_istore (lv' := [some (vR 40), some (vI (nI k)), some (vI (nI up)), some (vI (nI dn)), some (vI (nI led)), some (vI en), some (vI (nI s)), some (vI (nI (2 ^ P s))), some (vI 0), none, none, none]) DX12_tries_129 ⟨nlt rfl, nlt rfl⟩ rfl ?_
          refine x_aload_n 0 DX12_tries_131 rfl rfl ?_
          refine x_getr 33 (some 66) DX12_tries_132 (Or.inr F12_86) rfl rfl (hF.1 40 33 66 rfl) ?_
          refine x_iload DX12_tries_135 rfl ?_
          refine x_iald (v := (z 66 s)) s (nI_cl1 (by omega)) DX12_tries_137 rfl (gIn.fx hF (c := 66) (n := 12) rfl (gIn_nI (by omega) (by omega))) rfl ?_
          refine x_istore (lv' := [some (vR 40), some (vI (nI k)), some (vI (nI up)), some (vI (nI dn)), some (vI (nI led)), some (vI en), some (vI (nI s)), some (vI (nI (2 ^ P s))), some (vI 0), some (vI (z 66 s)), none, none]) DX12_tries_138 ⟨nlt rfl, nlt rfl⟩ rfl ?_
          refine x_iload DX12_tries_140 rfl ?_
          refine x_if_ne 153 DX12_tries_142 (by decide) (fun c_142 => ?_) (fun c_142 => ?_)
          · refine x_iload DX12_tries_153 rfl ?_
            refine x_if_ne 161 DX12_tries_155 (by decide) (fun h => absurd h (by decide)) (fun _ => ?_)
            refine x_goto 309 DX12_tries_158 (by decide) ?_
            refine x_iinc ((nI s) + 1) (lv' := [some (vR 40), some (vI (nI k)), some (vI (nI up)), some (vI (nI dn)), some (vI (nI led)), some (vI en), some (vI ((nI s) + 1)), some (vI (nI (2 ^ P s))), some (vI 0), some (vI (z 66 s)), none, none]) DX12_tries_309 rfl rfl (nlt rfl) rfl ?_
            refine x_goto 70 DX12_tries_312 (by decide) ?_
            refine x_less (lv' := [some (vR 40), some (vI (nI k)), some (vI (nI up)), some (vI (nI dn)), some (vI (nI led)), some (vI en), some (vI ((nI s) + 1)), none, none, none, none, none]) (less_ok (m := [true, true, true, true, true, true, true, false, false, false, false, false]) rfl) ?_
            refine x_lv (lv' := [some (vR 40), some (vI (nI k)), some (vI (nI up)), some (vI (nI dn)), some (vI (nI led)), some (vI en), some (vI (nI (s + 1))), none, none, none, none, none]) (lvS (lvS (lvS (lvS (lvS (lvS (lvI (nI_1 s) (lvS (lvS (lvS (lvS (lvS rfl)))))))))))) ?_
            have ho : okTr z P A up dn led en s = false := by first | (simp [okTr, stB, thN, *]; done) | (clear ih ihs; grind [okTr, stB, thN])
            rw [ho, if_neg (by decide)] at ihs
            exact ihs
          · refine x_iload DX12_tries_145 rfl ?_
            refine x_if_eq 161 DX12_tries_147 (by decide) (fun _ => ?_) (fun h => absurd h (by decide))
            refine x_iload DX12_tries_161 rfl ?_
            refine x_if_ne 173 DX12_tries_163 (by decide) (fun c_163 => False.elim (by grind)) (fun c_163 => ?_)
            refine x_iload_n 2 DX12_tries_166 rfl rfl ?_
            refine x_iload DX12_tries_167 rfl ?_
            refine x_ior DX12_tries_169 ?_
            rw [nI_or]
            refine x_goto 189 DX12_tries_170 (by decide) ?_
            refine x_istore (lv' := [some (vR 40), some (vI (nI k)), some (vI (nI up)), some (vI (nI dn)), some (vI (nI led)), some (vI en), some (vI (nI s)), some (vI (nI (2 ^ P s))), some (vI 0), some (vI (z 66 s)), some (vI (nI (up ||| 2 ^ P s))), none]) DX12_tries_189 ⟨nlt rfl, nlt rfl⟩ rfl ?_
            refine x_iload DX12_tries_191 rfl ?_
            refine x_iconst 2 DX12_tries_193 (by decide) ?_
            refine x_icmp_eq 208 DX12_tries_194 (by decide) (fun c_194 => False.elim (by grind)) (fun c_194 => ?_)
            refine x_iload DX12_tries_197 rfl ?_
            refine x_if_ne 212 DX12_tries_199 (by decide) (fun c_199 => False.elim (by grind)) (fun c_199 => ?_)
            refine x_iload DX12_tries_202 rfl ?_
            refine x_iconst 2 DX12_tries_204 (by decide) ?_
            refine x_icmp_lt 212 DX12_tries_205 (by decide) (fun c_205 => ?_) (fun c_205 => ?_)
            · rw [show (2 : Int32) = nI 2 from rfl, nI_lt1 (by omega) (by omega)] at c_205
              refine x_iconst 0 DX12_tries_212 (by decide) ?_
              refine x_istore (lv' := [some (vR 40), some (vI (nI k)), some (vI (nI up)), some (vI (nI dn)), some (vI (nI led)), some (vI en), some (vI (nI s)), some (vI (nI (2 ^ P s))), some (vI 0), some (vI (z 66 s)), some (vI (nI (up ||| 2 ^ P s))), some (vI 0)]) DX12_tries_213 ⟨nlt rfl, nlt rfl⟩ rfl ?_
              refine x_iload DX12_tries_215 rfl ?_
              refine x_iconst 1 DX12_tries_217 (by decide) ?_
              refine x_icmp_eq 226 DX12_tries_218 (by decide) (fun c_218 => False.elim (by grind)) (fun c_218 => ?_)
              refine x_iload DX12_tries_221 rfl ?_
              refine x_if_ne 309 DX12_tries_223 (by decide) (fun c_223 => ?_) (fun c_223 => ?_)
              · refine x_iinc ((nI s) + 1) (lv' := [some (vR 40), some (vI (nI k)), some (vI (nI up)), some (vI (nI dn)), some (vI (nI led)), some (vI en), some (vI ((nI s) + 1)), some (vI (nI (2 ^ P s))), some (vI 0), some (vI (z 66 s)), some (vI (nI (up ||| 2 ^ P s))), some (vI 0)]) DX12_tries_309 rfl rfl (nlt rfl) rfl ?_
                refine x_goto 70 DX12_tries_312 (by decide) ?_
                refine x_less (lv' := [some (vR 40), some (vI (nI k)), some (vI (nI up)), some (vI (nI dn)), some (vI (nI led)), some (vI en), some (vI ((nI s) + 1)), none, none, none, none, none]) (less_ok (m := [true, true, true, true, true, true, true, false, false, false, false, false]) rfl) ?_
                refine x_lv (lv' := [some (vR 40), some (vI (nI k)), some (vI (nI up)), some (vI (nI dn)), some (vI (nI led)), some (vI en), some (vI (nI (s + 1))), none, none, none, none, none]) (lvS (lvS (lvS (lvS (lvS (lvS (lvI (nI_1 s) (lvS (lvS (lvS (lvS (lvS rfl)))))))))))) ?_
                have ho : okTr z P A up dn led en s = false := by first | (simp [okTr, stB, thN, *]; done) | (clear ih ihs; grind [okTr, stB, thN])
                rw [ho, if_neg (by decide)] at ihs
                exact ihs
              · refine x_iload DX12_tries_226 rfl ?_
                refine x_if_eq 248 DX12_tries_228 (by decide) (fun _ => ?_) (fun h => absurd h (by decide))
                refine x_aload_n 0 DX12_tries_248 rfl rfl ?_
                refine x_getr 38 (some 71) DX12_tries_249 (Or.inr F12_101) rfl rfl (hF.1 40 38 71 rfl) ?_
                refine x_iload_n 1 DX12_tries_252 rfl rfl ?_
                refine x_iload DX12_tries_253 rfl ?_
                refine x_iast k (nI_cl1 (by omega)) DX12_tries_255 rfl (gIn.fx hF (c := 71) (n := 8) rfl (gIn_nI (by omega) (by omega))) (fun ι255 e_ι255 => ?_)
                refine x_aload_n 0 DX12_tries_256 rfl rfl ?_
                refine x_iload_n 1 DX12_tries_257 rfl rfl ?_
                refine x_iconst 1 DX12_tries_258 (by decide) ?_
                refine x_iadd DX12_tries_259 ?_
                rw [nI_1]
                refine x_iload DX12_tries_260 rfl ?_
                refine x_iload_n 3 DX12_tries_262 rfl rfl ?_
                refine x_iconst 1 DX12_tries_263 (by decide) ?_
                refine x_iload DX12_tries_264 rfl ?_
                refine x_ishl DX12_tries_266 ?_
                rw [nI_shl s (by omega)]
                refine x_ior DX12_tries_267 ?_
                rw [nI_or]
                refine x_iload DX12_tries_268 rfl ?_
                refine x_iload DX12_tries_270 rfl ?_
                refine x_if_ne 279 DX12_tries_272 (by decide) (fun c_272 => False.elim (by grind)) (fun c_272 => ?_)
                refine x_iconst 1 DX12_tries_275 (by decide) ?_
                refine x_goto 280 DX12_tries_276 (by decide) ?_
                refine x_iadd DX12_tries_280 ?_
                rw [nI_1]
                refine x_iload DX12_tries_281 rfl ?_
                refine x_if_ne 301 DX12_tries_283 (by decide) (fun c_283 => False.elim (by grind)) (fun c_283 => ?_)
                refine x_iload DX12_tries_286 rfl ?_
                refine x_iconst 1 DX12_tries_288 (by decide) ?_
                refine x_icmp_ne 305 DX12_tries_289 (by decide) (fun c_289 => ?_) (fun c_289 => False.elim (by grind))
                refine x_iconst 0 DX12_tries_305 (by decide) ?_
                have ho : okTr z P A up dn led en s = true := by first | (simp [okTr, stB, thN, *]; done) | (clear ih ihs; grind [okTr, stB, thN])
                have hth : thN z P up s = (up ||| 2 ^ P s) := by simp [thN, *]
                have hld : ldN z led s = (led + 1) := by simp [ldN, *]
                have hen : enN z P up en s = 0 := by first | (simp [enN, thN, *]; done) | (clear ih ihs; grind [enN, thN])
                have g := ih (k + 1) (up ||| 2 ^ P s) (dn ||| 2 ^ s) (led + 1) 0 ι255 (by omega) (by rw [e_ι255]; exact okT_up hJ hs hs8) hu1 (or8 hd hs2) (by omega) (by first | exact Or.inl rfl | exact Or.inr rfl)
                refine x_Ve (ci := 12) (av := [vI (nI (k + 1)), vI (nI (up ||| 2 ^ P s)), vI (nI (dn ||| 2 ^ s)), vI (nI (led + 1)), vI 0]) (rest := []) (st' := []) 0 0 DX12_tries_306 L12_228 rfl rfl rfl rfl rfl ⟨by omega, nle rfl, nle rfl⟩ ⟨rfl, nle rfl⟩ ⟨rfl, nle rfl⟩ (g) rfl ?_
                refine x_nmι (fun ι306 e_ι306 => ?_)
                refine x_iinc ((nI s) + 1) (lv' := [some (vR 40), some (vI (nI k)), some (vI (nI up)), some (vI (nI dn)), some (vI (nI led)), some (vI en), some (vI ((nI s) + 1)), some (vI (nI (2 ^ P s))), some (vI 0), some (vI (z 66 s)), some (vI (nI (up ||| 2 ^ P s))), some (vI 0)]) DX12_tries_309 rfl rfl (nlt rfl) rfl ?_
                refine x_goto 70 DX12_tries_312 (by decide) ?_
                refine x_less (lv' := [some (vR 40), some (vI (nI k)), some (vI (nI up)), some (vI (nI dn)), some (vI (nI led)), some (vI en), some (vI ((nI s) + 1)), none, none, none, none, none]) (less_ok (m := [true, true, true, true, true, true, true, false, false, false, false, false]) rfl) ?_
                refine x_lv (lv' := [some (vR 40), some (vI (nI k)), some (vI (nI up)), some (vI (nI dn)), some (vI (nI led)), some (vI en), some (vI (nI (s + 1))), none, none, none, none, none]) (lvS (lvS (lvS (lvS (lvS (lvS (lvI (nI_1 s) (lvS (lvS (lvS (lvS (lvS rfl)))))))))))) ?_
                rw [if_pos ho, hth, hld, hen, ← e_ι255, ← e_ι306] at ihs
                exact ihs
            · rw [show (2 : Int32) = nI 2 from rfl, nI_lt1 (by omega) (by omega)] at c_205
              refine x_iconst 1 DX12_tries_208 (by decide) ?_
              refine x_goto 213 DX12_tries_209 (by decide) ?_
              refine x_istore (lv' := [some (vR 40), some (vI (nI k)), some (vI (nI up)), some (vI (nI dn)), some (vI (nI led)), some (vI en), some (vI (nI s)), some (vI (nI (2 ^ P s))), some (vI 0), some (vI (z 66 s)), some (vI (nI (up ||| 2 ^ P s))), some (vI 1)]) DX12_tries_213 ⟨nlt rfl, nlt rfl⟩ rfl ?_
              refine x_iload DX12_tries_215 rfl ?_
              refine x_iconst 1 DX12_tries_217 (by decide) ?_
              refine x_icmp_eq 226 DX12_tries_218 (by decide) (fun c_218 => False.elim (by grind)) (fun c_218 => ?_)
              refine x_iload DX12_tries_221 rfl ?_
              refine x_if_ne 309 DX12_tries_223 (by decide) (fun c_223 => ?_) (fun c_223 => ?_)
              · refine x_iinc ((nI s) + 1) (lv' := [some (vR 40), some (vI (nI k)), some (vI (nI up)), some (vI (nI dn)), some (vI (nI led)), some (vI en), some (vI ((nI s) + 1)), some (vI (nI (2 ^ P s))), some (vI 0), some (vI (z 66 s)), some (vI (nI (up ||| 2 ^ P s))), some (vI 1)]) DX12_tries_309 rfl rfl (nlt rfl) rfl ?_
                refine x_goto 70 DX12_tries_312 (by decide) ?_
                refine x_less (lv' := [some (vR 40), some (vI (nI k)), some (vI (nI up)), some (vI (nI dn)), some (vI (nI led)), some (vI en), some (vI ((nI s) + 1)), none, none, none, none, none]) (less_ok (m := [true, true, true, true, true, true, true, false, false, false, false, false]) rfl) ?_
                refine x_lv (lv' := [some (vR 40), some (vI (nI k)), some (vI (nI up)), some (vI (nI dn)), some (vI (nI led)), some (vI en), some (vI (nI (s + 1))), none, none, none, none, none]) (lvS (lvS (lvS (lvS (lvS (lvS (lvI (nI_1 s) (lvS (lvS (lvS (lvS (lvS rfl)))))))))))) ?_
                have ho : okTr z P A up dn led en s = false := by first | (simp [okTr, stB, thN, *]; done) | (clear ih ihs; grind [okTr, stB, thN])
                rw [ho, if_neg (by decide)] at ihs
                exact ihs
              · refine x_iload DX12_tries_226 rfl ?_
                refine x_if_eq 248 DX12_tries_228 (by decide) (fun h => absurd h (by decide)) (fun _ => ?_)
                refine x_iload DX12_tries_231 rfl ?_
                refine x_iload DX12_tries_233 rfl ?_
                refine x_iconst (-1) DX12_tries_235 (by decide) ?_
                refine x_ixor DX12_tries_236 ?_
                refine x_iand DX12_tries_237 ?_
                rw [nI_sub2 (a := (up ||| 2 ^ P s)) (b := 2 ^ P s) (by have := hu1; omega) (by omega)]
                refine x_Se (av := [vI (nI ((up ||| 2 ^ P s) &&& (255 ^^^ 2 ^ P s)))]) (rest := []) (st' := [vI (nI (pc (((up ||| 2 ^ P s) &&& (255 ^^^ 2 ^ P s)) &&& 15)))]) 0 0 DX12_tries_238 L12_225 rfl rfl ⟨nle rfl, nle rfl, nle rfl⟩ ⟨rfl, nle rfl⟩ ⟨rfl, nle rfl⟩ (m_floors K ((up ||| 2 ^ P s) &&& (255 ^^^ 2 ^ P s)) z ρ Λ (and_lt hu1)) rfl ?_
                refine x_iconst 2 DX12_tries_241 (by decide) ?_
                refine x_icmp_ge 248 DX12_tries_242 (by decide) (fun c_242 => ?_) (fun c_242 => ?_)
                · rw [show (2 : Int32) = nI 2 from rfl, nI_le1 (by omega) (by have := pc_le; grind)] at c_242
                  refine x_aload_n 0 DX12_tries_248 rfl rfl ?_
                  refine x_getr 38 (some 71) DX12_tries_249 (Or.inr F12_101) rfl rfl (hF.1 40 38 71 rfl) ?_
                  refine x_iload_n 1 DX12_tries_252 rfl rfl ?_
                  refine x_iload DX12_tries_253 rfl ?_
                  refine x_iast k (nI_cl1 (by omega)) DX12_tries_255 rfl (gIn.fx hF (c := 71) (n := 8) rfl (gIn_nI (by omega) (by omega))) (fun ι255 e_ι255 => ?_)
                  refine x_aload_n 0 DX12_tries_256 rfl rfl ?_
                  refine x_iload_n 1 DX12_tries_257 rfl rfl ?_
                  refine x_iconst 1 DX12_tries_258 (by decide) ?_
                  refine x_iadd DX12_tries_259 ?_
                  rw [nI_1]
                  refine x_iload DX12_tries_260 rfl ?_
                  refine x_iload_n 3 DX12_tries_262 rfl rfl ?_
                  refine x_iconst 1 DX12_tries_263 (by decide) ?_
                  refine x_iload DX12_tries_264 rfl ?_
                  refine x_ishl DX12_tries_266 ?_
                  rw [nI_shl s (by omega)]
                  refine x_ior DX12_tries_267 ?_
                  rw [nI_or]
                  refine x_iload DX12_tries_268 rfl ?_
                  refine x_iload DX12_tries_270 rfl ?_
                  refine x_if_ne 279 DX12_tries_272 (by decide) (fun c_272 => False.elim (by grind)) (fun c_272 => ?_)
                  refine x_iconst 1 DX12_tries_275 (by decide) ?_
                  refine x_goto 280 DX12_tries_276 (by decide) ?_
                  refine x_iadd DX12_tries_280 ?_
                  rw [nI_1]
                  refine x_iload DX12_tries_281 rfl ?_
                  refine x_if_ne 301 DX12_tries_283 (by decide) (fun c_283 => False.elim (by grind)) (fun c_283 => ?_)
                  refine x_iload DX12_tries_286 rfl ?_
                  refine x_iconst 1 DX12_tries_288 (by decide) ?_
                  refine x_icmp_ne 305 DX12_tries_289 (by decide) (fun c_289 => ?_) (fun c_289 => False.elim (by grind))
                  refine x_iconst 0 DX12_tries_305 (by decide) ?_
                  have ho : okTr z P A up dn led en s = true := by first | (simp [okTr, stB, thN, *]; done) | (clear ih ihs; grind [okTr, stB, thN])
                  have hth : thN z P up s = (up ||| 2 ^ P s) := by simp [thN, *]
                  have hld : ldN z led s = (led + 1) := by simp [ldN, *]
                  have hen : enN z P up en s = 0 := by first | (simp [enN, thN, *]; done) | (clear ih ihs; grind [enN, thN])
                  have g := ih (k + 1) (up ||| 2 ^ P s) (dn ||| 2 ^ s) (led + 1) 0 ι255 (by omega) (by rw [e_ι255]; exact okT_up hJ hs hs8) hu1 (or8 hd hs2) (by omega) (by first | exact Or.inl rfl | exact Or.inr rfl)
                  refine x_Ve (ci := 12) (av := [vI (nI (k + 1)), vI (nI (up ||| 2 ^ P s)), vI (nI (dn ||| 2 ^ s)), vI (nI (led + 1)), vI 0]) (rest := []) (st' := []) 0 0 DX12_tries_306 L12_228 rfl rfl rfl rfl rfl ⟨by omega, nle rfl, nle rfl⟩ ⟨rfl, nle rfl⟩ ⟨rfl, nle rfl⟩ (g) rfl ?_
                  refine x_nmι (fun ι306 e_ι306 => ?_)
                  refine x_iinc ((nI s) + 1) (lv' := [some (vR 40), some (vI (nI k)), some (vI (nI up)), some (vI (nI dn)), some (vI (nI led)), some (vI en), some (vI ((nI s) + 1)), some (vI (nI (2 ^ P s))), some (vI 0), some (vI (z 66 s)), some (vI (nI (up ||| 2 ^ P s))), some (vI 1)]) DX12_tries_309 rfl rfl (nlt rfl) rfl ?_
                  refine x_goto 70 DX12_tries_312 (by decide) ?_
                  refine x_less (lv' := [some (vR 40), some (vI (nI k)), some (vI (nI up)), some (vI (nI dn)), some (vI (nI led)), some (vI en), some (vI ((nI s) + 1)), none, none, none, none, none]) (less_ok (m := [true, true, true, true, true, true, true, false, false, false, false, false]) rfl) ?_
                  refine x_lv (lv' := [some (vR 40), some (vI (nI k)), some (vI (nI up)), some (vI (nI dn)), some (vI (nI led)), some (vI en), some (vI (nI (s + 1))), none, none, none, none, none]) (lvS (lvS (lvS (lvS (lvS (lvS (lvI (nI_1 s) (lvS (lvS (lvS (lvS (lvS rfl)))))))))))) ?_
                  rw [if_pos ho, hth, hld, hen, ← e_ι255, ← e_ι306] at ihs
                  exact ihs
                · rw [show (2 : Int32) = nI 2 from rfl, nI_le1 (by omega) (by have := pc_le; grind)] at c_242
                  refine x_goto 309 DX12_tries_245 (by decide) ?_
                  refine x_iinc ((nI s) + 1) (lv' := [some (vR 40), some (vI (nI k)), some (vI (nI up)), some (vI (nI dn)), some (vI (nI led)), some (vI en), some (vI ((nI s) + 1)), some (vI (nI (2 ^ P s))), some (vI 0), some (vI (z 66 s)), some (vI (nI (up ||| 2 ^ P s))), some (vI 1)]) DX12_tries_309 rfl rfl (nlt rfl) rfl ?_
                  refine x_goto 70 DX12_tries_312 (by decide) ?_
                  refine x_less (lv' := [some (vR 40), some (vI (nI k)), some (vI (nI up)), some (vI (nI dn)), some (vI (nI led)), some (vI en), some (vI ((nI s) + 1)), none, none, none, none, none]) (less_ok (m := [true, true, true, true, true, true, true, false, false, false, false, false]) rfl) ?_
                  refine x_lv (lv' := [some (vR 40), some (vI (nI k)), some (vI (nI up)), some (vI (nI dn)), some (vI (nI led)), some (vI en), some (vI (nI (s + 1))), none, none, none, none, none]) (lvS (lvS (lvS (lvS (lvS (lvS (lvI (nI_1 s) (lvS (lvS (lvS (lvS (lvS rfl)))))))))))) ?_
                  have ho : okTr z P A up dn led en s = false := by first | (simp [okTr, stB, thN, *]; done) | (clear ih ihs; grind [okTr, stB, thN])
                  rw [ho, if_neg (by decide)] at ihs
                  exact ihs
        · rw [nI_eq0 (by omega)] at c_121
          refine x_iconst 1 DX12_tries_124 (by decide) ?_
          refine x_goto 129 DX12_tries_125 (by decide) ?_
          refine x_istore (lv' := [some (vR 40), some (vI (nI k)), some (vI (nI up)), some (vI (nI dn)), some (vI (nI led)), some (vI en), some (vI (nI s)), some (vI (nI (2 ^ P s))), some (vI 1), none, none, none]) DX12_tries_129 ⟨nlt rfl, nlt rfl⟩ rfl ?_
          refine x_aload_n 0 DX12_tries_131 rfl rfl ?_
          refine x_getr 33 (some 66) DX12_tries_132 (Or.inr F12_86) rfl rfl (hF.1 40 33 66 rfl) ?_
          refine x_iload DX12_tries_135 rfl ?_
          refine x_iald (v := (z 66 s)) s (nI_cl1 (by omega)) DX12_tries_137 rfl (gIn.fx hF (c := 66) (n := 12) rfl (gIn_nI (by omega) (by omega))) rfl ?_
          refine x_istore (lv' := [some (vR 40), some (vI (nI k)), some (vI (nI up)), some (vI (nI dn)), some (vI (nI led)), some (vI en), some (vI (nI s)), some (vI (nI (2 ^ P s))), some (vI 1), some (vI (z 66 s)), none, none]) DX12_tries_138 ⟨nlt rfl, nlt rfl⟩ rfl ?_
          refine x_iload DX12_tries_140 rfl ?_
          refine x_if_ne 153 DX12_tries_142 (by decide) (fun c_142 => ?_) (fun c_142 => ?_)
          · refine x_iload DX12_tries_153 rfl ?_
            refine x_if_ne 161 DX12_tries_155 (by decide) (fun _ => ?_) (fun h => absurd h (by decide))
            refine x_iload DX12_tries_161 rfl ?_
            refine x_if_ne 173 DX12_tries_163 (by decide) (fun c_163 => ?_) (fun c_163 => False.elim (by grind))
            refine x_iload DX12_tries_173 rfl ?_
            refine x_iconst 1 DX12_tries_175 (by decide) ?_
            refine x_icmp_ne 188 DX12_tries_176 (by decide) (fun c_176 => ?_) (fun c_176 => ?_)
            · refine x_iload_n 2 DX12_tries_188 rfl rfl ?_
              refine x_istore (lv' := [some (vR 40), some (vI (nI k)), some (vI (nI up)), some (vI (nI dn)), some (vI (nI led)), some (vI en), some (vI (nI s)), some (vI (nI (2 ^ P s))), some (vI 1), some (vI (z 66 s)), some (vI (nI up)), none]) DX12_tries_189 ⟨nlt rfl, nlt rfl⟩ rfl ?_
              refine x_iload DX12_tries_191 rfl ?_
              refine x_iconst 2 DX12_tries_193 (by decide) ?_
              refine x_icmp_eq 208 DX12_tries_194 (by decide) (fun c_194 => ?_) (fun c_194 => ?_)
              · refine x_iconst 1 DX12_tries_208 (by decide) ?_
                refine x_goto 213 DX12_tries_209 (by decide) ?_
                refine x_istore (lv' := [some (vR 40), some (vI (nI k)), some (vI (nI up)), some (vI (nI dn)), some (vI (nI led)), some (vI en), some (vI (nI s)), some (vI (nI (2 ^ P s))), some (vI 1), some (vI (z 66 s)), some (vI (nI up)), some (vI 1)]) DX12_tries_213 ⟨nlt rfl, nlt rfl⟩ rfl ?_
                refine x_iload DX12_tries_215 rfl ?_
                refine x_iconst 1 DX12_tries_217 (by decide) ?_
                refine x_icmp_eq 226 DX12_tries_218 (by decide) (fun c_218 => False.elim (by grind)) (fun c_218 => ?_)
                refine x_iload DX12_tries_221 rfl ?_
                refine x_if_ne 309 DX12_tries_223 (by decide) (fun c_223 => ?_) (fun c_223 => ?_)
                · refine x_iinc ((nI s) + 1) (lv' := [some (vR 40), some (vI (nI k)), some (vI (nI up)), some (vI (nI dn)), some (vI (nI led)), some (vI en), some (vI ((nI s) + 1)), some (vI (nI (2 ^ P s))), some (vI 1), some (vI (z 66 s)), some (vI (nI up)), some (vI 1)]) DX12_tries_309 rfl rfl (nlt rfl) rfl ?_
                  refine x_goto 70 DX12_tries_312 (by decide) ?_
                  refine x_less (lv' := [some (vR 40), some (vI (nI k)), some (vI (nI up)), some (vI (nI dn)), some (vI (nI led)), some (vI en), some (vI ((nI s) + 1)), none, none, none, none, none]) (less_ok (m := [true, true, true, true, true, true, true, false, false, false, false, false]) rfl) ?_
                  refine x_lv (lv' := [some (vR 40), some (vI (nI k)), some (vI (nI up)), some (vI (nI dn)), some (vI (nI led)), some (vI en), some (vI (nI (s + 1))), none, none, none, none, none]) (lvS (lvS (lvS (lvS (lvS (lvS (lvI (nI_1 s) (lvS (lvS (lvS (lvS (lvS rfl)))))))))))) ?_
                  have ho : okTr z P A up dn led en s = false := by first | (simp [okTr, stB, thN, *]; done) | (clear ih ihs; grind [okTr, stB, thN])
                  rw [ho, if_neg (by decide)] at ihs
                  exact ihs
                · refine x_iload DX12_tries_226 rfl ?_
                  refine x_if_eq 248 DX12_tries_228 (by decide) (fun h => absurd h (by decide)) (fun _ => ?_)
                  refine x_iload DX12_tries_231 rfl ?_
                  refine x_iload DX12_tries_233 rfl ?_
                  refine x_iconst (-1) DX12_tries_235 (by decide) ?_
                  refine x_ixor DX12_tries_236 ?_
                  refine x_iand DX12_tries_237 ?_
                  rw [nI_sub2 (a := up) (b := 2 ^ P s) (by have := hu; omega) (by omega)]
                  refine x_Se (av := [vI (nI (up &&& (255 ^^^ 2 ^ P s)))]) (rest := []) (st' := [vI (nI (pc ((up &&& (255 ^^^ 2 ^ P s)) &&& 15)))]) 0 0 DX12_tries_238 L12_225 rfl rfl ⟨nle rfl, nle rfl, nle rfl⟩ ⟨rfl, nle rfl⟩ ⟨rfl, nle rfl⟩ (m_floors K (up &&& (255 ^^^ 2 ^ P s)) z ρ Λ hu2) rfl ?_
                  refine x_iconst 2 DX12_tries_241 (by decide) ?_
                  refine x_icmp_ge 248 DX12_tries_242 (by decide) (fun c_242 => ?_) (fun c_242 => ?_)
                  · rw [show (2 : Int32) = nI 2 from rfl, nI_le1 (by omega) (by have := pc_le; grind)] at c_242
                    refine x_aload_n 0 DX12_tries_248 rfl rfl ?_
                    refine x_getr 38 (some 71) DX12_tries_249 (Or.inr F12_101) rfl rfl (hF.1 40 38 71 rfl) ?_
                    refine x_iload_n 1 DX12_tries_252 rfl rfl ?_
                    refine x_iload DX12_tries_253 rfl ?_
                    refine x_iast k (nI_cl1 (by omega)) DX12_tries_255 rfl (gIn.fx hF (c := 71) (n := 8) rfl (gIn_nI (by omega) (by omega))) (fun ι255 e_ι255 => ?_)
                    refine x_aload_n 0 DX12_tries_256 rfl rfl ?_
                    refine x_iload_n 1 DX12_tries_257 rfl rfl ?_
                    refine x_iconst 1 DX12_tries_258 (by decide) ?_
                    refine x_iadd DX12_tries_259 ?_
                    rw [nI_1]
                    refine x_iload DX12_tries_260 rfl ?_
                    refine x_iload_n 3 DX12_tries_262 rfl rfl ?_
                    refine x_iconst 1 DX12_tries_263 (by decide) ?_
                    refine x_iload DX12_tries_264 rfl ?_
                    refine x_ishl DX12_tries_266 ?_
                    rw [nI_shl s (by omega)]
                    refine x_ior DX12_tries_267 ?_
                    rw [nI_or]
                    refine x_iload DX12_tries_268 rfl ?_
                    refine x_iload DX12_tries_270 rfl ?_
                    refine x_if_ne 279 DX12_tries_272 (by decide) (fun c_272 => ?_) (fun c_272 => False.elim (by grind))
                    refine x_iconst 0 DX12_tries_279 (by decide) ?_
                    refine x_iadd DX12_tries_280 ?_
                    rw [show nI led + 0 = nI (led + 0) from by rw [Nat.add_zero]; exact Int32.add_zero _]
                    refine x_iload DX12_tries_281 rfl ?_
                    refine x_if_ne 301 DX12_tries_283 (by decide) (fun c_283 => False.elim (by grind)) (fun c_283 => ?_)
                    refine x_iload DX12_tries_286 rfl ?_
                    refine x_iconst 1 DX12_tries_288 (by decide) ?_
                    refine x_icmp_ne 305 DX12_tries_289 (by decide) (fun c_289 => ?_) (fun c_289 => False.elim (by grind))
                    refine x_iconst 0 DX12_tries_305 (by decide) ?_
                    have ho : okTr z P A up dn led en s = true := by first | (simp [okTr, stB, thN, *]; done) | (clear ih ihs; grind [okTr, stB, thN])
                    have hth : thN z P up s = up := by simp [thN, *]
                    have hld : ldN z led s = (led + 0) := by simp [ldN, *]
                    have hen : enN z P up en s = 0 := by first | (simp [enN, thN, *]; done) | (clear ih ihs; grind [enN, thN])
                    have g := ih (k + 1) up (dn ||| 2 ^ s) (led + 0) 0 ι255 (by omega) (by rw [e_ι255]; exact okT_up hJ hs hs8) hu (or8 hd hs2) (by omega) (by first | exact Or.inl rfl | exact Or.inr rfl)
                    refine x_Ve (ci := 12) (av := [vI (nI (k + 1)), vI (nI up), vI (nI (dn ||| 2 ^ s)), vI (nI (led + 0)), vI 0]) (rest := []) (st' := []) 0 0 DX12_tries_306 L12_228 rfl rfl rfl rfl rfl ⟨by omega, nle rfl, nle rfl⟩ ⟨rfl, nle rfl⟩ ⟨rfl, nle rfl⟩ (g) rfl ?_
                    refine x_nmι (fun ι306 e_ι306 => ?_)
                    refine x_iinc ((nI s) + 1) (lv' := [some (vR 40), some (vI (nI k)), some (vI (nI up)), some (vI (nI dn)), some (vI (nI led)), some (vI en), some (vI ((nI s) + 1)), some (vI (nI (2 ^ P s))), some (vI 1), some (vI (z 66 s)), some (vI (nI up)), some (vI 1)]) DX12_tries_309 rfl rfl (nlt rfl) rfl ?_
                    refine x_goto 70 DX12_tries_312 (by decide) ?_
                    refine x_less (lv' := [some (vR 40), some (vI (nI k)), some (vI (nI up)), some (vI (nI dn)), some (vI (nI led)), some (vI en), some (vI ((nI s) + 1)), none, none, none, none, none]) (less_ok (m := [true, true, true, true, true, true, true, false, false, false, false, false]) rfl) ?_
                    refine x_lv (lv' := [some (vR 40), some (vI (nI k)), some (vI (nI up)), some (vI (nI dn)), some (vI (nI led)), some (vI en), some (vI (nI (s + 1))), none, none, none, none, none]) (lvS (lvS (lvS (lvS (lvS (lvS (lvI (nI_1 s) (lvS (lvS (lvS (lvS (lvS rfl)))))))))))) ?_
                    rw [if_pos ho, hth, hld, hen, ← e_ι255, ← e_ι306] at ihs
                    exact ihs
                  · rw [show (2 : Int32) = nI 2 from rfl, nI_le1 (by omega) (by have := pc_le; grind)] at c_242
                    refine x_goto 309 DX12_tries_245 (by decide) ?_
                    refine x_iinc ((nI s) + 1) (lv' := [some (vR 40), some (vI (nI k)), some (vI (nI up)), some (vI (nI dn)), some (vI (nI led)), some (vI en), some (vI ((nI s) + 1)), some (vI (nI (2 ^ P s))), some (vI 1), some (vI (z 66 s)), some (vI (nI up)), some (vI 1)]) DX12_tries_309 rfl rfl (nlt rfl) rfl ?_
                    refine x_goto 70 DX12_tries_312 (by decide) ?_
                    refine x_less (lv' := [some (vR 40), some (vI (nI k)), some (vI (nI up)), some (vI (nI dn)), some (vI (nI led)), some (vI en), some (vI ((nI s) + 1)), none, none, none, none, none]) (less_ok (m := [true, true, true, true, true, true, true, false, false, false, false, false]) rfl) ?_
                    refine x_lv (lv' := [some (vR 40), some (vI (nI k)), some (vI (nI up)), some (vI (nI dn)), some (vI (nI led)), some (vI en), some (vI (nI (s + 1))), none, none, none, none, none]) (lvS (lvS (lvS (lvS (lvS (lvS (lvI (nI_1 s) (lvS (lvS (lvS (lvS (lvS rfl)))))))))))) ?_
                    have ho : okTr z P A up dn led en s = false := by first | (simp [okTr, stB, thN, *]; done) | (clear ih ihs; grind [okTr, stB, thN])
                    rw [ho, if_neg (by decide)] at ihs
                    exact ihs
              · refine x_iload DX12_tries_197 rfl ?_
                refine x_if_ne 212 DX12_tries_199 (by decide) (fun c_199 => ?_) (fun c_199 => False.elim (by grind))
                refine x_iconst 0 DX12_tries_212 (by decide) ?_
                refine x_istore (lv' := [some (vR 40), some (vI (nI k)), some (vI (nI up)), some (vI (nI dn)), some (vI (nI led)), some (vI en), some (vI (nI s)), some (vI (nI (2 ^ P s))), some (vI 1), some (vI (z 66 s)), some (vI (nI up)), some (vI 0)]) DX12_tries_213 ⟨nlt rfl, nlt rfl⟩ rfl ?_
                refine x_iload DX12_tries_215 rfl ?_
                refine x_iconst 1 DX12_tries_217 (by decide) ?_
                refine x_icmp_eq 226 DX12_tries_218 (by decide) (fun c_218 => False.elim (by grind)) (fun c_218 => ?_)
                refine x_iload DX12_tries_221 rfl ?_
                refine x_if_ne 309 DX12_tries_223 (by decide) (fun c_223 => ?_) (fun c_223 => ?_)
                · refine x_iinc ((nI s) + 1) (lv' := [some (vR 40), some (vI (nI k)), some (vI (nI up)), some (vI (nI dn)), some (vI (nI led)), some (vI en), some (vI ((nI s) + 1)), some (vI (nI (2 ^ P s))), some (vI 1), some (vI (z 66 s)), some (vI (nI up)), some (vI 0)]) DX12_tries_309 rfl rfl (nlt rfl) rfl ?_
                  refine x_goto 70 DX12_tries_312 (by decide) ?_
                  refine x_less (lv' := [some (vR 40), some (vI (nI k)), some (vI (nI up)), some (vI (nI dn)), some (vI (nI led)), some (vI en), some (vI ((nI s) + 1)), none, none, none, none, none]) (less_ok (m := [true, true, true, true, true, true, true, false, false, false, false, false]) rfl) ?_
                  refine x_lv (lv' := [some (vR 40), some (vI (nI k)), some (vI (nI up)), some (vI (nI dn)), some (vI (nI led)), some (vI en), some (vI (nI (s + 1))), none, none, none, none, none]) (lvS (lvS (lvS (lvS (lvS (lvS (lvI (nI_1 s) (lvS (lvS (lvS (lvS (lvS rfl)))))))))))) ?_
                  have ho : okTr z P A up dn led en s = false := by first | (simp [okTr, stB, thN, *]; done) | (clear ih ihs; grind [okTr, stB, thN])
                  rw [ho, if_neg (by decide)] at ihs
                  exact ihs
                · refine x_iload DX12_tries_226 rfl ?_
                  refine x_if_eq 248 DX12_tries_228 (by decide) (fun _ => ?_) (fun h => absurd h (by decide))
                  refine x_aload_n 0 DX12_tries_248 rfl rfl ?_
                  refine x_getr 38 (some 71) DX12_tries_249 (Or.inr F12_101) rfl rfl (hF.1 40 38 71 rfl) ?_
                  refine x_iload_n 1 DX12_tries_252 rfl rfl ?_
                  refine x_iload DX12_tries_253 rfl ?_
                  refine x_iast k (nI_cl1 (by omega)) DX12_tries_255 rfl (gIn.fx hF (c := 71) (n := 8) rfl (gIn_nI (by omega) (by omega))) (fun ι255 e_ι255 => ?_)
                  refine x_aload_n 0 DX12_tries_256 rfl rfl ?_
                  refine x_iload_n 1 DX12_tries_257 rfl rfl ?_
                  refine x_iconst 1 DX12_tries_258 (by decide) ?_
                  refine x_iadd DX12_tries_259 ?_
                  rw [nI_1]
                  refine x_iload DX12_tries_260 rfl ?_
                  refine x_iload_n 3 DX12_tries_262 rfl rfl ?_
                  refine x_iconst 1 DX12_tries_263 (by decide) ?_
                  refine x_iload DX12_tries_264 rfl ?_
                  refine x_ishl DX12_tries_266 ?_
                  rw [nI_shl s (by omega)]
                  refine x_ior DX12_tries_267 ?_
                  rw [nI_or]
                  refine x_iload DX12_tries_268 rfl ?_
                  refine x_iload DX12_tries_270 rfl ?_
                  refine x_if_ne 279 DX12_tries_272 (by decide) (fun c_272 => ?_) (fun c_272 => False.elim (by grind))
                  refine x_iconst 0 DX12_tries_279 (by decide) ?_
                  refine x_iadd DX12_tries_280 ?_
                  rw [show nI led + 0 = nI (led + 0) from by rw [Nat.add_zero]; exact Int32.add_zero _]
                  refine x_iload DX12_tries_281 rfl ?_
                  refine x_if_ne 301 DX12_tries_283 (by decide) (fun c_283 => False.elim (by grind)) (fun c_283 => ?_)
                  refine x_iload DX12_tries_286 rfl ?_
                  refine x_iconst 1 DX12_tries_288 (by decide) ?_
                  refine x_icmp_ne 305 DX12_tries_289 (by decide) (fun c_289 => ?_) (fun c_289 => False.elim (by grind))
                  refine x_iconst 0 DX12_tries_305 (by decide) ?_
                  have ho : okTr z P A up dn led en s = true := by first | (simp [okTr, stB, thN, *]; done) | (clear ih ihs; grind [okTr, stB, thN])
                  have hth : thN z P up s = up := by simp [thN, *]
                  have hld : ldN z led s = (led + 0) := by simp [ldN, *]
                  have hen : enN z P up en s = 0 := by first | (simp [enN, thN, *]; done) | (clear ih ihs; grind [enN, thN])
                  have g := ih (k + 1) up (dn ||| 2 ^ s) (led + 0) 0 ι255 (by omega) (by rw [e_ι255]; exact okT_up hJ hs hs8) hu (or8 hd hs2) (by omega) (by first | exact Or.inl rfl | exact Or.inr rfl)
                  refine x_Ve (ci := 12) (av := [vI (nI (k + 1)), vI (nI up), vI (nI (dn ||| 2 ^ s)), vI (nI (led + 0)), vI 0]) (rest := []) (st' := []) 0 0 DX12_tries_306 L12_228 rfl rfl rfl rfl rfl ⟨by omega, nle rfl, nle rfl⟩ ⟨rfl, nle rfl⟩ ⟨rfl, nle rfl⟩ (g) rfl ?_
                  refine x_nmι (fun ι306 e_ι306 => ?_)
                  refine x_iinc ((nI s) + 1) (lv' := [some (vR 40), some (vI (nI k)), some (vI (nI up)), some (vI (nI dn)), some (vI (nI led)), some (vI en), some (vI ((nI s) + 1)), some (vI (nI (2 ^ P s))), some (vI 1), some (vI (z 66 s)), some (vI (nI up)), some (vI 0)]) DX12_tries_309 rfl rfl (nlt rfl) rfl ?_
                  refine x_goto 70 DX12_tries_312 (by decide) ?_
                  refine x_less (lv' := [some (vR 40), some (vI (nI k)), some (vI (nI up)), some (vI (nI dn)), some (vI (nI led)), some (vI en), some (vI ((nI s) + 1)), none, none, none, none, none]) (less_ok (m := [true, true, true, true, true, true, true, false, false, false, false, false]) rfl) ?_
                  refine x_lv (lv' := [some (vR 40), some (vI (nI k)), some (vI (nI up)), some (vI (nI dn)), some (vI (nI led)), some (vI en), some (vI (nI (s + 1))), none, none, none, none, none]) (lvS (lvS (lvS (lvS (lvS (lvS (lvI (nI_1 s) (lvS (lvS (lvS (lvS (lvS rfl)))))))))))) ?_
                  rw [if_pos ho, hth, hld, hen, ← e_ι255, ← e_ι306] at ihs
                  exact ihs
            · refine x_iload_n 2 DX12_tries_179 rfl rfl ?_
              refine x_iload DX12_tries_180 rfl ?_
              refine x_iconst (-1) DX12_tries_182 (by decide) ?_
              refine x_ixor DX12_tries_183 ?_
              refine x_iand DX12_tries_184 ?_
              rw [nI_sub2 (by omega) (by omega)]
              refine x_goto 189 DX12_tries_185 (by decide) ?_
              refine x_istore (lv' := [some (vR 40), some (vI (nI k)), some (vI (nI up)), some (vI (nI dn)), some (vI (nI led)), some (vI en), some (vI (nI s)), some (vI (nI (2 ^ P s))), some (vI 1), some (vI (z 66 s)), some (vI (nI (up &&& (255 ^^^ 2 ^ P s)))), none]) DX12_tries_189 ⟨nlt rfl, nlt rfl⟩ rfl ?_
              refine x_iload DX12_tries_191 rfl ?_
              refine x_iconst 2 DX12_tries_193 (by decide) ?_
              refine x_icmp_eq 208 DX12_tries_194 (by decide) (fun c_194 => False.elim (by grind)) (fun c_194 => ?_)
              refine x_iload DX12_tries_197 rfl ?_
              refine x_if_ne 212 DX12_tries_199 (by decide) (fun c_199 => ?_) (fun c_199 => False.elim (by grind))
              refine x_iconst 0 DX12_tries_212 (by decide) ?_
              refine x_istore (lv' := [some (vR 40), some (vI (nI k)), some (vI (nI up)), some (vI (nI dn)), some (vI (nI led)), some (vI en), some (vI (nI s)), some (vI (nI (2 ^ P s))), some (vI 1), some (vI (z 66 s)), some (vI (nI (up &&& (255 ^^^ 2 ^ P s)))), some (vI 0)]) DX12_tries_213 ⟨nlt rfl, nlt rfl⟩ rfl ?_
              refine x_iload DX12_tries_215 rfl ?_
              refine x_iconst 1 DX12_tries_217 (by decide) ?_
              refine x_icmp_eq 226 DX12_tries_218 (by decide) (fun c_218 => ?_) (fun c_218 => False.elim (by grind))
              refine x_iload DX12_tries_226 rfl ?_
              refine x_if_eq 248 DX12_tries_228 (by decide) (fun _ => ?_) (fun h => absurd h (by decide))
              refine x_aload_n 0 DX12_tries_248 rfl rfl ?_
              refine x_getr 38 (some 71) DX12_tries_249 (Or.inr F12_101) rfl rfl (hF.1 40 38 71 rfl) ?_
              refine x_iload_n 1 DX12_tries_252 rfl rfl ?_
              refine x_iload DX12_tries_253 rfl ?_
              refine x_iast k (nI_cl1 (by omega)) DX12_tries_255 rfl (gIn.fx hF (c := 71) (n := 8) rfl (gIn_nI (by omega) (by omega))) (fun ι255 e_ι255 => ?_)
              refine x_aload_n 0 DX12_tries_256 rfl rfl ?_
              refine x_iload_n 1 DX12_tries_257 rfl rfl ?_
              refine x_iconst 1 DX12_tries_258 (by decide) ?_
              refine x_iadd DX12_tries_259 ?_
              rw [nI_1]
              refine x_iload DX12_tries_260 rfl ?_
              refine x_iload_n 3 DX12_tries_262 rfl rfl ?_
              refine x_iconst 1 DX12_tries_263 (by decide) ?_
              refine x_iload DX12_tries_264 rfl ?_
              refine x_ishl DX12_tries_266 ?_
              rw [nI_shl s (by omega)]
              refine x_ior DX12_tries_267 ?_
              rw [nI_or]
              refine x_iload DX12_tries_268 rfl ?_
              refine x_iload DX12_tries_270 rfl ?_
              refine x_if_ne 279 DX12_tries_272 (by decide) (fun c_272 => ?_) (fun c_272 => False.elim (by grind))
              refine x_iconst 0 DX12_tries_279 (by decide) ?_
              refine x_iadd DX12_tries_280 ?_
              rw [show nI led + 0 = nI (led + 0) from by rw [Nat.add_zero]; exact Int32.add_zero _]
              refine x_iload DX12_tries_281 rfl ?_
              refine x_if_ne 301 DX12_tries_283 (by decide) (fun c_283 => ?_) (fun c_283 => ?_)
              · refine x_iconst 1 DX12_tries_301 (by decide) ?_
                refine x_goto 306 DX12_tries_302 (by decide) ?_
                have ho : okTr z P A up dn led en s = true := by first | (simp [okTr, stB, thN, *]; done) | (clear ih ihs; grind [okTr, stB, thN])
                have hth : thN z P up s = (up &&& (255 ^^^ 2 ^ P s)) := by simp [thN, *]
                have hld : ldN z led s = (led + 0) := by simp [ldN, *]
                have hen : enN z P up en s = 1 := by first | (simp [enN, thN, *]; done) | (clear ih ihs; grind [enN, thN])
                have g := ih (k + 1) (up &&& (255 ^^^ 2 ^ P s)) (dn ||| 2 ^ s) (led + 0) 1 ι255 (by omega) (by rw [e_ι255]; exact okT_up hJ hs hs8) hu2 (or8 hd hs2) (by omega) (by first | exact Or.inl rfl | exact Or.inr rfl)
                refine x_Ve (ci := 12) (av := [vI (nI (k + 1)), vI (nI (up &&& (255 ^^^ 2 ^ P s))), vI (nI (dn ||| 2 ^ s)), vI (nI (led + 0)), vI 1]) (rest := []) (st' := []) 0 0 DX12_tries_306 L12_228 rfl rfl rfl rfl rfl ⟨by omega, nle rfl, nle rfl⟩ ⟨rfl, nle rfl⟩ ⟨rfl, nle rfl⟩ (g) rfl ?_
                refine x_nmι (fun ι306 e_ι306 => ?_)
                refine x_iinc ((nI s) + 1) (lv' := [some (vR 40), some (vI (nI k)), some (vI (nI up)), some (vI (nI dn)), some (vI (nI led)), some (vI en), some (vI ((nI s) + 1)), some (vI (nI (2 ^ P s))), some (vI 1), some (vI (z 66 s)), some (vI (nI (up &&& (255 ^^^ 2 ^ P s)))), some (vI 0)]) DX12_tries_309 rfl rfl (nlt rfl) rfl ?_
                refine x_goto 70 DX12_tries_312 (by decide) ?_
                refine x_less (lv' := [some (vR 40), some (vI (nI k)), some (vI (nI up)), some (vI (nI dn)), some (vI (nI led)), some (vI en), some (vI ((nI s) + 1)), none, none, none, none, none]) (less_ok (m := [true, true, true, true, true, true, true, false, false, false, false, false]) rfl) ?_
                refine x_lv (lv' := [some (vR 40), some (vI (nI k)), some (vI (nI up)), some (vI (nI dn)), some (vI (nI led)), some (vI en), some (vI (nI (s + 1))), none, none, none, none, none]) (lvS (lvS (lvS (lvS (lvS (lvS (lvI (nI_1 s) (lvS (lvS (lvS (lvS (lvS rfl)))))))))))) ?_
                rw [if_pos ho, hth, hld, hen, ← e_ι255, ← e_ι306] at ihs
                exact ihs
              · refine x_iload DX12_tries_286 rfl ?_
                refine x_iconst 1 DX12_tries_288 (by decide) ?_
                refine x_icmp_ne 305 DX12_tries_289 (by decide) (fun c_289 => False.elim (by grind)) (fun c_289 => ?_)
                refine x_iload DX12_tries_292 rfl ?_
                refine x_Se (av := [vI (nI (up &&& (255 ^^^ 2 ^ P s)))]) (rest := [vI (nI (led + 0)), vI (nI (dn ||| 2 ^ s)), vI (nI (up &&& (255 ^^^ 2 ^ P s))), vI (nI (k + 1)), vR 40]) (st' := [vI (nI (pc ((up &&& (255 ^^^ 2 ^ P s)) &&& 15))), vI (nI (led + 0)), vI (nI (dn ||| 2 ^ s)), vI (nI (up &&& (255 ^^^ 2 ^ P s))), vI (nI (k + 1)), vR 40]) 0 0 DX12_tries_294 L12_225 rfl rfl ⟨nle rfl, nle rfl, nle rfl⟩ ⟨rfl, nle rfl⟩ ⟨rfl, nle rfl⟩ (m_floors K (up &&& (255 ^^^ 2 ^ P s)) ι255 ρ Λ hu2) rfl ?_
                refine x_iconst 2 DX12_tries_297 (by decide) ?_
                refine x_icmp_ge 305 DX12_tries_298 (by decide) (fun c_298 => ?_) (fun c_298 => ?_)
                · rw [show (2 : Int32) = nI 2 from rfl, nI_le1 (by omega) (by have := pc_le; grind)] at c_298
                  refine x_iconst 0 DX12_tries_305 (by decide) ?_
                  have ho : okTr z P A up dn led en s = true := by first | (simp [okTr, stB, thN, *]; done) | (clear ih ihs; grind [okTr, stB, thN])
                  have hth : thN z P up s = (up &&& (255 ^^^ 2 ^ P s)) := by simp [thN, *]
                  have hld : ldN z led s = (led + 0) := by simp [ldN, *]
                  have hen : enN z P up en s = 0 := by first | (simp [enN, thN, *]; done) | (clear ih ihs; grind [enN, thN])
                  have g := ih (k + 1) (up &&& (255 ^^^ 2 ^ P s)) (dn ||| 2 ^ s) (led + 0) 0 ι255 (by omega) (by rw [e_ι255]; exact okT_up hJ hs hs8) hu2 (or8 hd hs2) (by omega) (by first | exact Or.inl rfl | exact Or.inr rfl)
                  refine x_Ve (ci := 12) (av := [vI (nI (k + 1)), vI (nI (up &&& (255 ^^^ 2 ^ P s))), vI (nI (dn ||| 2 ^ s)), vI (nI (led + 0)), vI 0]) (rest := []) (st' := []) 0 0 DX12_tries_306 L12_228 rfl rfl rfl rfl rfl ⟨by omega, nle rfl, nle rfl⟩ ⟨rfl, nle rfl⟩ ⟨rfl, nle rfl⟩ (g) rfl ?_
                  refine x_nmι (fun ι306 e_ι306 => ?_)
                  refine x_iinc ((nI s) + 1) (lv' := [some (vR 40), some (vI (nI k)), some (vI (nI up)), some (vI (nI dn)), some (vI (nI led)), some (vI en), some (vI ((nI s) + 1)), some (vI (nI (2 ^ P s))), some (vI 1), some (vI (z 66 s)), some (vI (nI (up &&& (255 ^^^ 2 ^ P s)))), some (vI 0)]) DX12_tries_309 rfl rfl (nlt rfl) rfl ?_
                  refine x_goto 70 DX12_tries_312 (by decide) ?_
                  refine x_less (lv' := [some (vR 40), some (vI (nI k)), some (vI (nI up)), some (vI (nI dn)), some (vI (nI led)), some (vI en), some (vI ((nI s) + 1)), none, none, none, none, none]) (less_ok (m := [true, true, true, true, true, true, true, false, false, false, false, false]) rfl) ?_
                  refine x_lv (lv' := [some (vR 40), some (vI (nI k)), some (vI (nI up)), some (vI (nI dn)), some (vI (nI led)), some (vI en), some (vI (nI (s + 1))), none, none, none, none, none]) (lvS (lvS (lvS (lvS (lvS (lvS (lvI (nI_1 s) (lvS (lvS (lvS (lvS (lvS rfl)))))))))))) ?_
                  rw [if_pos ho, hth, hld, hen, ← e_ι255, ← e_ι306] at ihs
                  exact ihs
                · rw [show (2 : Int32) = nI 2 from rfl, nI_le1 (by omega) (by have := pc_le; grind)] at c_298
                  refine x_iconst 1 DX12_tries_301 (by decide) ?_
                  refine x_goto 306 DX12_tries_302 (by decide) ?_
                  have ho : okTr z P A up dn led en s = true := by first | (simp [okTr, stB, thN, *]; done) | (clear ih ihs; grind [okTr, stB, thN])
                  have hth : thN z P up s = (up &&& (255 ^^^ 2 ^ P s)) := by simp [thN, *]
                  have hld : ldN z led s = (led + 0) := by simp [ldN, *]
                  have hen : enN z P up en s = 1 := by first | (simp [enN, thN, *]; done) | (clear ih ihs; grind [enN, thN])
                  have g := ih (k + 1) (up &&& (255 ^^^ 2 ^ P s)) (dn ||| 2 ^ s) (led + 0) 1 ι255 (by omega) (by rw [e_ι255]; exact okT_up hJ hs hs8) hu2 (or8 hd hs2) (by omega) (by first | exact Or.inl rfl | exact Or.inr rfl)
                  refine x_Ve (ci := 12) (av := [vI (nI (k + 1)), vI (nI (up &&& (255 ^^^ 2 ^ P s))), vI (nI (dn ||| 2 ^ s)), vI (nI (led + 0)), vI 1]) (rest := []) (st' := []) 0 0 DX12_tries_306 L12_228 rfl rfl rfl rfl rfl ⟨by omega, nle rfl, nle rfl⟩ ⟨rfl, nle rfl⟩ ⟨rfl, nle rfl⟩ (g) rfl ?_
                  refine x_nmι (fun ι306 e_ι306 => ?_)
                  refine x_iinc ((nI s) + 1) (lv' := [some (vR 40), some (vI (nI k)), some (vI (nI up)), some (vI (nI dn)), some (vI (nI led)), some (vI en), some (vI ((nI s) + 1)), some (vI (nI (2 ^ P s))), some (vI 1), some (vI (z 66 s)), some (vI (nI (up &&& (255 ^^^ 2 ^ P s)))), some (vI 0)]) DX12_tries_309 rfl rfl (nlt rfl) rfl ?_
                  refine x_goto 70 DX12_tries_312 (by decide) ?_
                  refine x_less (lv' := [some (vR 40), some (vI (nI k)), some (vI (nI up)), some (vI (nI dn)), some (vI (nI led)), some (vI en), some (vI ((nI s) + 1)), none, none, none, none, none]) (less_ok (m := [true, true, true, true, true, true, true, false, false, false, false, false]) rfl) ?_
                  refine x_lv (lv' := [some (vR 40), some (vI (nI k)), some (vI (nI up)), some (vI (nI dn)), some (vI (nI led)), some (vI en), some (vI (nI (s + 1))), none, none, none, none, none]) (lvS (lvS (lvS (lvS (lvS (lvS (lvI (nI_1 s) (lvS (lvS (lvS (lvS (lvS rfl)))))))))))) ?_
                  rw [if_pos ho, hth, hld, hen, ← e_ι255, ← e_ι306] at ihs
                  exact ihs
          · refine x_iload DX12_tries_145 rfl ?_
            refine x_if_eq 161 DX12_tries_147 (by decide) (fun h => absurd h (by decide)) (fun _ => ?_)
            refine x_goto 309 DX12_tries_150 (by decide) ?_
            refine x_iinc ((nI s) + 1) (lv' := [some (vR 40), some (vI (nI k)), some (vI (nI up)), some (vI (nI dn)), some (vI (nI led)), some (vI en), some (vI ((nI s) + 1)), some (vI (nI (2 ^ P s))), some (vI 1), some (vI (z 66 s)), none, none]) DX12_tries_309 rfl rfl (nlt rfl) rfl ?_
            refine x_goto 70 DX12_tries_312 (by decide) ?_
            refine x_less (lv' := [some (vR 40), some (vI (nI k)), some (vI (nI up)), some (vI (nI dn)), some (vI (nI led)), some (vI en), some (vI ((nI s) + 1)), none, none, none, none, none]) (less_ok (m := [true, true, true, true, true, true, true, false, false, false, false, false]) rfl) ?_
            refine x_lv (lv' := [some (vR 40), some (vI (nI k)), some (vI (nI up)), some (vI (nI dn)), some (vI (nI led)), some (vI en), some (vI (nI (s + 1))), none, none, none, none, none]) (lvS (lvS (lvS (lvS (lvS (lvS (lvI (nI_1 s) (lvS (lvS (lvS (lvS (lvS rfl)))))))))))) ?_
            have ho : okTr z P A up dn led en s = false := by first | (simp [okTr, stB, thN, *]; done) | (clear ih ihs; grind [okTr, stB, thN])
            rw [ho, if_neg (by decide)] at ihs
            exact ihs
      · rw [nI_eq0 (by omega)] at c_100
        refine x_goto 309 DX12_tries_103 (by decide) ?_
        refine x_iinc ((nI s) + 1) (lv' := [some (vR 40), some (vI (nI k)), some (vI (nI up)), some (vI (nI dn)), some (vI (nI led)), some (vI en), some (vI ((nI s) + 1)), none, none, none, none, none]) DX12_tries_309 rfl rfl (nlt rfl) rfl ?_
        refine x_goto 70 DX12_tries_312 (by decide) ?_
        refine x_less (lv' := [some (vR 40), some (vI (nI k)), some (vI (nI up)), some (vI (nI dn)), some (vI (nI led)), some (vI en), some (vI ((nI s) + 1)), none, none, none, none, none]) (less_ok (m := [true, true, true, true, true, true, true, false, false, false, false, false]) rfl) ?_
        refine x_lv (lv' := [some (vR 40), some (vI (nI k)), some (vI (nI up)), some (vI (nI dn)), some (vI (nI led)), some (vI en), some (vI (nI (s + 1))), none, none, none, none, none]) (lvS (lvS (lvS (lvS (lvS (lvS (lvI (nI_1 s) (lvS (lvS (lvS (lvS (lvS rfl)))))))))))) ?_
        have ho : okTr z P A up dn led en s = false := by first | (simp [okTr, stB, thN, *]; done) | (clear ih ihs; grind [okTr, stB, thN])
        rw [ho, if_neg (by decide)] at ihs
        exact ihs
  · generalize hze : fo (fun s z => if okTr z P A up dn led en s = true then mTr ns nh P A m (k + 1) (thN z P up s) (dn ||| 2 ^ s) (ldN z led s) (enN z P up en s) (up2 z 71 k (nI s)) else z) (ns - 0) 0 ι = zf at hJ ⊢
    show gX K none (m + 1 + 3) 0 0 jX12_tries 70 [some (vR 40), some (vI (nI k)), some (vI (nI up)), some (vI (nI dn)), some (vI (nI led)), some (vI en), some (vI (nI ns)), none, none, none, none, none] [] 0 0 zf ρ Λ (fun r2 a b c => r2 = none ∧ a = (mTr ns nh P A (m + 1) k up dn led en ι) ∧ b = ρ ∧ c = Λ)
    refine x_iload DX12_tries_70 rfl ?_
    refine x_aload_n 0 DX12_tries_72 rfl rfl ?_
    refine x_geti (v := (nI ns)) 8 DX12_tries_73 (Or.inl F12_216) rfl rfl hJ.1 ?_
    refine x_icmp_ge 315 DX12_tries_76 (by decide) (fun c_76 => ?_) (fun c_76 => False.elim (c_76 (nI_le (by omega) (by omega))))
    exact x_return DX12_tries_315 rfl ⟨rfl, by rw [mTr, ← hze]; rfl, rfl, rfl⟩
