/-! the law, II -/
theorem law_bears {K : gK} {b L t : Nat} {xs : Nat → Int32} {ι : gIm} {ρ : gRm} {Λ : gLm} (hL : L ≤ 3072) (h6 : 6 * t + 6 ≤ L) (hI : Inv t ι ρ Λ) (back : backTo K b L xs t) : gX K (some (b, L, xs)) 37 600000 7302250 jL_law 664 [some (vB b), some (vR 0), some (vR 40), some (vI (nI (6 * t)))] [] (73 + 312 * t) (4780 + 936 * t) ι ρ Λ (fun r _ _ _ => r = some (vI 1)) := by
  obtain ⟨yr, wk, nh, nr, nb, ns, np, ch, h⟩ := hI
  obtain ⟨a, ι1, ρ1, Λ1, ι2, gx, gm, h2⟩ := o_bears h  K
  refine x_aload_n 1 DL_law_664 rfl rfl ?_
  refine x_Ve (ci := 11) (av := []) (rest := []) (st' := [vI a]) (73 + 312 * t + 0) (4780 + 936 * t + 0) DL_law_665 LL_81 rfl rfl rfl rfl rfl ⟨nle rfl, nle rfl, nle rfl⟩ ⟨rfl, by omega⟩ ⟨rfl, by omega⟩ gx rfl ?_
  refine x_aload_n 2 DL_law_668 rfl rfl ?_
  refine x_Ve (ci := 12) (av := []) (rest := [vI a]) (st' := [vI a, vI a]) (73 + 312 * t + 0) (4780 + 936 * t + 0) DL_law_669 LL_84 rfl rfl rfl rfl rfl ⟨nle rfl, nle rfl, nle rfl⟩ ⟨by omega, by omega⟩ ⟨by omega, by omega⟩ gm rfl ?_
  exact x_icmp_eq 1108 DL_law_672 (by decide) (fun _ => x_widen (385 + 312 * t) (5716 + 936 * t) (by omega) (by omega) (back _ _ _ h2)) (fun q => absurd rfl q)
theorem law_load {K : gK} {b L t : Nat} {xs : Nat → Int32} {ι : gIm} {ρ : gRm} {Λ : gLm} (hL : L ≤ 3072) (h6 : 6 * t + 6 ≤ L) (hI : Inv t ι ρ Λ) (back : backTo K b L xs t) : gX K (some (b, L, xs)) 37 600000 7302250 jL_law 677 [some (vB b), some (vR 0), some (vR 40), some (vI (nI (6 * t)))] [] (73 + 312 * t) (4780 + 936 * t) ι ρ Λ (fun r _ _ _ => r = some (vI 1)) := by
  obtain ⟨yr, wk, nh, nr, nb, ns, np, ch, h⟩ := hI
  obtain ⟨a, ι1, ρ1, Λ1, ι2, gx, gm, h2⟩ := o_load h (xs (6 * t + 1)) K
  refine x_aload_n 1 DL_law_677 rfl rfl ?_
  refine x_aload_n 0 DL_law_678 rfl rfl ?_
  refine x_iload_n 3 DL_law_679 rfl rfl ?_
  refine x_iconst 1 DL_law_680 (by decide) ?_
  refine x_iadd DL_law_681 ?_
  refine x_sld (6 * t + 1) (lix (k := 1) (by omega)) rfl DL_law_682 (lin (k := 1) (by omega) hL) ?_
  refine x_Ve (ci := 11) (av := [vI (xs (6 * t + 1))]) (rest := []) (st' := [vI a]) (73 + 312 * t + 0) (4780 + 936 * t + 0) DL_law_683 LL_85 rfl rfl rfl rfl rfl ⟨nle rfl, nle rfl, nle rfl⟩ ⟨rfl, by omega⟩ ⟨rfl, by omega⟩ gx rfl ?_
  refine x_aload_n 2 DL_law_686 rfl rfl ?_
  refine x_aload_n 0 DL_law_687 rfl rfl ?_
  refine x_iload_n 3 DL_law_688 rfl rfl ?_
  refine x_iconst 1 DL_law_689 (by decide) ?_
  refine x_iadd DL_law_690 ?_
  refine x_sld (6 * t + 1) (lix (k := 1) (by omega)) rfl DL_law_691 (lin (k := 1) (by omega) hL) ?_
  refine x_Ve (ci := 12) (av := [vI (xs (6 * t + 1))]) (rest := [vI a]) (st' := [vI a, vI a]) (73 + 312 * t + 0) (4780 + 936 * t + 0) DL_law_692 LL_88 rfl rfl rfl rfl rfl ⟨nle rfl, nle rfl, nle rfl⟩ ⟨by omega, by omega⟩ ⟨by omega, by omega⟩ gm rfl ?_
  exact x_icmp_eq 1108 DL_law_695 (by decide) (fun _ => x_widen (385 + 312 * t) (5716 + 936 * t) (by omega) (by omega) (back _ _ _ h2)) (fun q => absurd rfl q)
theorem law_weeks {K : gK} {b L t : Nat} {xs : Nat → Int32} {ι : gIm} {ρ : gRm} {Λ : gLm} (hL : L ≤ 3072) (h6 : 6 * t + 6 ≤ L) (hI : Inv t ι ρ Λ) (back : backTo K b L xs t) : gX K (some (b, L, xs)) 37 600000 7302250 jL_law 700 [some (vB b), some (vR 0), some (vR 40), some (vI (nI (6 * t)))] [] (73 + 312 * t) (4780 + 936 * t) ι ρ Λ (fun r _ _ _ => r = some (vI 1)) := by
  obtain ⟨yr, wk, nh, nr, nb, ns, np, ch, h⟩ := hI
  obtain ⟨a, ι1, ρ1, Λ1, ι2, gx, gm, h2⟩ := o_weeks h (xs (6 * t + 1)) K
  refine x_aload_n 1 DL_law_700 rfl rfl ?_
  refine x_aload_n 0 DL_law_701 rfl rfl ?_
  refine x_iload_n 3 DL_law_702 rfl rfl ?_
  refine x_iconst 1 DL_law_703 (by decide) ?_
  refine x_iadd DL_law_704 ?_
  refine x_sld (6 * t + 1) (lix (k := 1) (by omega)) rfl DL_law_705 (lin (k := 1) (by omega) hL) ?_
  refine x_Ve (ci := 11) (av := [vI (xs (6 * t + 1))]) (rest := []) (st' := [vI a]) (73 + 312 * t + 312) (4780 + 936 * t + 936) DL_law_706 LL_89 rfl rfl rfl rfl rfl ⟨nle rfl, nle rfl, nle rfl⟩ ⟨rfl, by omega⟩ ⟨rfl, by omega⟩ gx rfl ?_
  refine x_aload_n 2 DL_law_709 rfl rfl ?_
  refine x_aload_n 0 DL_law_710 rfl rfl ?_
  refine x_iload_n 3 DL_law_711 rfl rfl ?_
  refine x_iconst 1 DL_law_712 (by decide) ?_
  refine x_iadd DL_law_713 ?_
  refine x_sld (6 * t + 1) (lix (k := 1) (by omega)) rfl DL_law_714 (lin (k := 1) (by omega) hL) ?_
  refine x_Ve (ci := 12) (av := [vI (xs (6 * t + 1))]) (rest := [vI a]) (st' := [vI a, vI a]) (73 + 312 * t + 312) (4780 + 936 * t + 936) DL_law_715 LL_92 rfl rfl rfl rfl rfl ⟨nle rfl, nle rfl, nle rfl⟩ ⟨by omega, by omega⟩ ⟨by omega, by omega⟩ gm rfl ?_
  exact x_icmp_eq 1108 DL_law_718 (by decide) (fun _ => x_widen (385 + 312 * t) (5716 + 936 * t) (by omega) (by omega) (back _ _ _ h2)) (fun q => absurd rfl q)
theorem law_till {K : gK} {b L t : Nat} {xs : Nat → Int32} {ι : gIm} {ρ : gRm} {Λ : gLm} (hL : L ≤ 3072) (h6 : 6 * t + 6 ≤ L) (hI : Inv t ι ρ Λ) (back : backTo K b L xs t) : gX K (some (b, L, xs)) 37 600000 7302250 jL_law 723 [some (vB b), some (vR 0), some (vR 40), some (vI (nI (6 * t)))] [] (73 + 312 * t) (4780 + 936 * t) ι ρ Λ (fun r _ _ _ => r = some (vI 1)) := by
  obtain ⟨yr, wk, nh, nr, nb, ns, np, ch, h⟩ := hI
  obtain ⟨a, ι1, ρ1, Λ1, ι2, gx, gm, h2⟩ := o_till h (xs (6 * t + 1)) K
  refine x_aload_n 1 DL_law_723 rfl rfl ?_
  refine x_aload_n 0 DL_law_724 rfl rfl ?_
  refine x_iload_n 3 DL_law_725 rfl rfl ?_
  refine x_iconst 1 DL_law_726 (by decide) ?_
  refine x_iadd DL_law_727 ?_
  refine x_sld (6 * t + 1) (lix (k := 1) (by omega)) rfl DL_law_728 (lin (k := 1) (by omega) hL) ?_
  refine x_Ve (ci := 11) (av := [vI (xs (6 * t + 1))]) (rest := []) (st' := [vI a]) (73 + 312 * t + 0) (4780 + 936 * t + 0) DL_law_729 LL_93 rfl rfl rfl rfl rfl ⟨nle rfl, nle rfl, nle rfl⟩ ⟨rfl, by omega⟩ ⟨rfl, by omega⟩ gx rfl ?_
  refine x_aload_n 2 DL_law_732 rfl rfl ?_
  refine x_aload_n 0 DL_law_733 rfl rfl ?_
  refine x_iload_n 3 DL_law_734 rfl rfl ?_
  refine x_iconst 1 DL_law_735 (by decide) ?_
  refine x_iadd DL_law_736 ?_
  refine x_sld (6 * t + 1) (lix (k := 1) (by omega)) rfl DL_law_737 (lin (k := 1) (by omega) hL) ?_
  refine x_Ve (ci := 12) (av := [vI (xs (6 * t + 1))]) (rest := [vI a]) (st' := [vI a, vI a]) (73 + 312 * t + 0) (4780 + 936 * t + 0) DL_law_738 LL_96 rfl rfl rfl rfl rfl ⟨nle rfl, nle rfl, nle rfl⟩ ⟨by omega, by omega⟩ ⟨by omega, by omega⟩ gm rfl ?_
  exact x_icmp_eq 1108 DL_law_741 (by decide) (fun _ => x_widen (385 + 312 * t) (5716 + 936 * t) (by omega) (by omega) (back _ _ _ h2)) (fun q => absurd rfl q)
theorem law_broken {K : gK} {b L t : Nat} {xs : Nat → Int32} {ι : gIm} {ρ : gRm} {Λ : gLm} (hL : L ≤ 3072) (h6 : 6 * t + 6 ≤ L) (hI : Inv t ι ρ Λ) (back : backTo K b L xs t) : gX K (some (b, L, xs)) 37 600000 7302250 jL_law 746 [some (vB b), some (vR 0), some (vR 40), some (vI (nI (6 * t)))] [] (73 + 312 * t) (4780 + 936 * t) ι ρ Λ (fun r _ _ _ => r = some (vI 1)) := by
  obtain ⟨yr, wk, nh, nr, nb, ns, np, ch, h⟩ := hI
  obtain ⟨a, ι1, ρ1, Λ1, ι2, gx, gm, h2⟩ := o_broken h (xs (6 * t + 1)) (xs (6 * t + 2)) K
  refine x_aload_n 1 DL_law_746 rfl rfl ?_
  refine x_aload_n 0 DL_law_747 rfl rfl ?_
  refine x_iload_n 3 DL_law_748 rfl rfl ?_
  refine x_iconst 1 DL_law_749 (by decide) ?_
  refine x_iadd DL_law_750 ?_
  refine x_sld (6 * t + 1) (lix (k := 1) (by omega)) rfl DL_law_751 (lin (k := 1) (by omega) hL) ?_
  refine x_aload_n 0 DL_law_752 rfl rfl ?_
  refine x_iload_n 3 DL_law_753 rfl rfl ?_
  refine x_iconst 2 DL_law_754 (by decide) ?_
  refine x_iadd DL_law_755 ?_
  refine x_sld (6 * t + 2) (lix (k := 2) (by omega)) rfl DL_law_756 (lin (k := 2) (by omega) hL) ?_
  refine x_Ve (ci := 11) (av := [vI (xs (6 * t + 1)), vI (xs (6 * t + 2))]) (rest := []) (st' := [vI a]) (73 + 312 * t + 0) (4780 + 936 * t + 0) DL_law_757 LL_97 rfl rfl rfl rfl rfl ⟨nle rfl, nle rfl, nle rfl⟩ ⟨rfl, by omega⟩ ⟨rfl, by omega⟩ gx rfl ?_
  refine x_aload_n 2 DL_law_760 rfl rfl ?_
  refine x_aload_n 0 DL_law_761 rfl rfl ?_
  refine x_iload_n 3 DL_law_762 rfl rfl ?_
  refine x_iconst 1 DL_law_763 (by decide) ?_
  refine x_iadd DL_law_764 ?_
  refine x_sld (6 * t + 1) (lix (k := 1) (by omega)) rfl DL_law_765 (lin (k := 1) (by omega) hL) ?_
  refine x_aload_n 0 DL_law_766 rfl rfl ?_
  refine x_iload_n 3 DL_law_767 rfl rfl ?_
  refine x_iconst 2 DL_law_768 (by decide) ?_
  refine x_iadd DL_law_769 ?_
  refine x_sld (6 * t + 2) (lix (k := 2) (by omega)) rfl DL_law_770 (lin (k := 2) (by omega) hL) ?_
  refine x_Ve (ci := 12) (av := [vI (xs (6 * t + 1)), vI (xs (6 * t + 2))]) (rest := [vI a]) (st' := [vI a, vI a]) (73 + 312 * t + 0) (4780 + 936 * t + 0) DL_law_771 LL_100 rfl rfl rfl rfl rfl ⟨nle rfl, nle rfl, nle rfl⟩ ⟨by omega, by omega⟩ ⟨by omega, by omega⟩ gm rfl ?_
  exact x_icmp_eq 1108 DL_law_774 (by decide) (fun _ => x_widen (385 + 312 * t) (5716 + 936 * t) (by omega) (by omega) (back _ _ _ h2)) (fun q => absurd rfl q)
theorem law_blame {K : gK} {b L t : Nat} {xs : Nat → Int32} {ι : gIm} {ρ : gRm} {Λ : gLm} (hL : L ≤ 3072) (h6 : 6 * t + 6 ≤ L) (hI : Inv t ι ρ Λ) (back : backTo K b L xs t) : gX K (some (b, L, xs)) 37 600000 7302250 jL_law 779 [some (vB b), some (vR 0), some (vR 40), some (vI (nI (6 * t)))] [] (73 + 312 * t) (4780 + 936 * t) ι ρ Λ (fun r _ _ _ => r = some (vI 1)) := by
  obtain ⟨yr, wk, nh, nr, nb, ns, np, ch, h⟩ := hI
  obtain ⟨a, ι1, ρ1, Λ1, ι2, gx, gm, h2⟩ := o_blame h (xs (6 * t + 1)) (xs (6 * t + 2)) K
  refine x_aload_n 1 DL_law_779 rfl rfl ?_
  refine x_aload_n 0 DL_law_780 rfl rfl ?_
  refine x_iload_n 3 DL_law_781 rfl rfl ?_
  refine x_iconst 1 DL_law_782 (by decide) ?_
  refine x_iadd DL_law_783 ?_
  refine x_sld (6 * t + 1) (lix (k := 1) (by omega)) rfl DL_law_784 (lin (k := 1) (by omega) hL) ?_
  refine x_aload_n 0 DL_law_785 rfl rfl ?_
  refine x_iload_n 3 DL_law_786 rfl rfl ?_
  refine x_iconst 2 DL_law_787 (by decide) ?_
  refine x_iadd DL_law_788 ?_
  refine x_sld (6 * t + 2) (lix (k := 2) (by omega)) rfl DL_law_789 (lin (k := 2) (by omega) hL) ?_
  refine x_Ve (ci := 11) (av := [vI (xs (6 * t + 1)), vI (xs (6 * t + 2))]) (rest := []) (st' := [vI a]) (73 + 312 * t + 0) (4780 + 936 * t + 0) DL_law_790 LL_101 rfl rfl rfl rfl rfl ⟨nle rfl, nle rfl, nle rfl⟩ ⟨rfl, by omega⟩ ⟨rfl, by omega⟩ gx rfl ?_
  refine x_aload_n 2 DL_law_793 rfl rfl ?_
  refine x_aload_n 0 DL_law_794 rfl rfl ?_
  refine x_iload_n 3 DL_law_795 rfl rfl ?_
  refine x_iconst 1 DL_law_796 (by decide) ?_
  refine x_iadd DL_law_797 ?_
  refine x_sld (6 * t + 1) (lix (k := 1) (by omega)) rfl DL_law_798 (lin (k := 1) (by omega) hL) ?_
  refine x_aload_n 0 DL_law_799 rfl rfl ?_
  refine x_iload_n 3 DL_law_800 rfl rfl ?_
  refine x_iconst 2 DL_law_801 (by decide) ?_
  refine x_iadd DL_law_802 ?_
  refine x_sld (6 * t + 2) (lix (k := 2) (by omega)) rfl DL_law_803 (lin (k := 2) (by omega) hL) ?_
  refine x_Ve (ci := 12) (av := [vI (xs (6 * t + 1)), vI (xs (6 * t + 2))]) (rest := [vI a]) (st' := [vI a, vI a]) (73 + 312 * t + 0) (4780 + 936 * t + 0) DL_law_804 LL_104 rfl rfl rfl rfl rfl ⟨nle rfl, nle rfl, nle rfl⟩ ⟨by omega, by omega⟩ ⟨by omega, by omega⟩ gm rfl ?_
  exact x_icmp_eq 1108 DL_law_807 (by decide) (fun _ => x_widen (385 + 312 * t) (5716 + 936 * t) (by omega) (by omega) (back _ _ _ h2)) (fun q => absurd rfl q)
theorem law_strands {K : gK} {b L t : Nat} {xs : Nat → Int32} {ι : gIm} {ρ : gRm} {Λ : gLm} (hL : L ≤ 3072) (h6 : 6 * t + 6 ≤ L) (hI : Inv t ι ρ Λ) (back : backTo K b L xs t) : gX K (some (b, L, xs)) 37 600000 7302250 jL_law 812 [some (vB b), some (vR 0), some (vR 40), some (vI (nI (6 * t)))] [] (73 + 312 * t) (4780 + 936 * t) ι ρ Λ (fun r _ _ _ => r = some (vI 1)) := by
  obtain ⟨yr, wk, nh, nr, nb, ns, np, ch, h⟩ := hI
  obtain ⟨a, ι1, ρ1, Λ1, ι2, gx, gm, h2⟩ := o_strands h (xs (6 * t + 1)) (xs (6 * t + 2)) K
  refine x_aload_n 1 DL_law_812 rfl rfl ?_
  refine x_aload_n 0 DL_law_813 rfl rfl ?_
  refine x_iload_n 3 DL_law_814 rfl rfl ?_
  refine x_iconst 1 DL_law_815 (by decide) ?_
  refine x_iadd DL_law_816 ?_
  refine x_sld (6 * t + 1) (lix (k := 1) (by omega)) rfl DL_law_817 (lin (k := 1) (by omega) hL) ?_
  refine x_aload_n 0 DL_law_818 rfl rfl ?_
  refine x_iload_n 3 DL_law_819 rfl rfl ?_
  refine x_iconst 2 DL_law_820 (by decide) ?_
  refine x_iadd DL_law_821 ?_
  refine x_sld (6 * t + 2) (lix (k := 2) (by omega)) rfl DL_law_822 (lin (k := 2) (by omega) hL) ?_
  refine x_Ve (ci := 11) (av := [vI (xs (6 * t + 1)), vI (xs (6 * t + 2))]) (rest := []) (st' := [vI a]) (73 + 312 * t + 0) (4780 + 936 * t + 0) DL_law_823 LL_105 rfl rfl rfl rfl rfl ⟨nle rfl, nle rfl, nle rfl⟩ ⟨rfl, by omega⟩ ⟨rfl, by omega⟩ gx rfl ?_
  refine x_aload_n 2 DL_law_826 rfl rfl ?_
  refine x_aload_n 0 DL_law_827 rfl rfl ?_
  refine x_iload_n 3 DL_law_828 rfl rfl ?_
  refine x_iconst 1 DL_law_829 (by decide) ?_
  refine x_iadd DL_law_830 ?_
  refine x_sld (6 * t + 1) (lix (k := 1) (by omega)) rfl DL_law_831 (lin (k := 1) (by omega) hL) ?_
  refine x_aload_n 0 DL_law_832 rfl rfl ?_
  refine x_iload_n 3 DL_law_833 rfl rfl ?_
  refine x_iconst 2 DL_law_834 (by decide) ?_
  refine x_iadd DL_law_835 ?_
  refine x_sld (6 * t + 2) (lix (k := 2) (by omega)) rfl DL_law_836 (lin (k := 2) (by omega) hL) ?_
  refine x_Ve (ci := 12) (av := [vI (xs (6 * t + 1)), vI (xs (6 * t + 2))]) (rest := [vI a]) (st' := [vI a, vI a]) (73 + 312 * t + 0) (4780 + 936 * t + 0) DL_law_837 LL_108 rfl rfl rfl rfl rfl ⟨nle rfl, nle rfl, nle rfl⟩ ⟨by omega, by omega⟩ ⟨by omega, by omega⟩ gm rfl ?_
  exact x_icmp_eq 1108 DL_law_840 (by decide) (fun _ => x_widen (385 + 312 * t) (5716 + 936 * t) (by omega) (by omega) (back _ _ _ h2)) (fun q => absurd rfl q)
theorem law_step {K : gK} {b L t : Nat} {xs : Nat → Int32} {ι : gIm} {ρ : gRm} {Λ : gLm} (hL : L ≤ 3072) (h6 : 6 * t + 6 ≤ L) (hI : Inv t ι ρ Λ) (back : backTo K b L xs t) : gX K (some (b, L, xs)) 37 600000 7302250 jL_law 845 [some (vB b), some (vR 0), some (vR 40), some (vI (nI (6 * t)))] [] (73 + 312 * t) (4780 + 936 * t) ι ρ Λ (fun r _ _ _ => r = some (vI 1)) := by
  obtain ⟨yr, wk, nh, nr, nb, ns, np, ch, h⟩ := hI
  obtain ⟨a, ι1, ρ1, Λ1, ι2, gx, gm, h2⟩ := o_step h (by omega) (xs (6 * t + 1)) (xs (6 * t + 2)) (xs (6 * t + 3)) (xs (6 * t + 4)) (xs (6 * t + 5)) K
  refine x_aload_n 1 DL_law_845 rfl rfl ?_
  refine x_aload_n 0 DL_law_846 rfl rfl ?_
  refine x_iload_n 3 DL_law_847 rfl rfl ?_
  refine x_iconst 1 DL_law_848 (by decide) ?_
  refine x_iadd DL_law_849 ?_
  refine x_sld (6 * t + 1) (lix (k := 1) (by omega)) rfl DL_law_850 (lin (k := 1) (by omega) hL) ?_
  refine x_aload_n 0 DL_law_851 rfl rfl ?_
  refine x_iload_n 3 DL_law_852 rfl rfl ?_
  refine x_iconst 2 DL_law_853 (by decide) ?_
  refine x_iadd DL_law_854 ?_
  refine x_sld (6 * t + 2) (lix (k := 2) (by omega)) rfl DL_law_855 (lin (k := 2) (by omega) hL) ?_
  refine x_aload_n 0 DL_law_856 rfl rfl ?_
  refine x_iload_n 3 DL_law_857 rfl rfl ?_
  refine x_iconst 3 DL_law_858 (by decide) ?_
  refine x_iadd DL_law_859 ?_
  refine x_sld (6 * t + 3) (lix (k := 3) (by omega)) rfl DL_law_860 (lin (k := 3) (by omega) hL) ?_
  refine x_aload_n 0 DL_law_861 rfl rfl ?_
  refine x_iload_n 3 DL_law_862 rfl rfl ?_
  refine x_iconst 4 DL_law_863 (by decide) ?_
  refine x_iadd DL_law_864 ?_
  refine x_sld (6 * t + 4) (lix (k := 4) (by omega)) rfl DL_law_865 (lin (k := 4) (by omega) hL) ?_
  refine x_aload_n 0 DL_law_866 rfl rfl ?_
  refine x_iload_n 3 DL_law_867 rfl rfl ?_
  refine x_iconst 5 DL_law_868 (by decide) ?_
  refine x_iadd DL_law_869 ?_
  refine x_sld (6 * t + 5) (lix (k := 5) (by omega)) rfl DL_law_870 (lin (k := 5) (by omega) hL) ?_
  refine x_Ve (ci := 11) (av := [vI (xs (6 * t + 1)), vI (xs (6 * t + 2)), vI (xs (6 * t + 3)), vI (xs (6 * t + 4)), vI (xs (6 * t + 5))]) (rest := []) (st' := [vI a]) (73 + 312 * t + 0) (4780 + 936 * t + 0) DL_law_871 LL_109 rfl rfl rfl rfl rfl ⟨nle rfl, nle rfl, nle rfl⟩ ⟨rfl, by omega⟩ ⟨rfl, by omega⟩ gx rfl ?_
  refine x_aload_n 2 DL_law_874 rfl rfl ?_
  refine x_aload_n 0 DL_law_875 rfl rfl ?_
  refine x_iload_n 3 DL_law_876 rfl rfl ?_
  refine x_iconst 1 DL_law_877 (by decide) ?_
  refine x_iadd DL_law_878 ?_
  refine x_sld (6 * t + 1) (lix (k := 1) (by omega)) rfl DL_law_879 (lin (k := 1) (by omega) hL) ?_
  refine x_aload_n 0 DL_law_880 rfl rfl ?_
  refine x_iload_n 3 DL_law_881 rfl rfl ?_
  refine x_iconst 2 DL_law_882 (by decide) ?_
  refine x_iadd DL_law_883 ?_
  refine x_sld (6 * t + 2) (lix (k := 2) (by omega)) rfl DL_law_884 (lin (k := 2) (by omega) hL) ?_
  refine x_aload_n 0 DL_law_885 rfl rfl ?_
  refine x_iload_n 3 DL_law_886 rfl rfl ?_
  refine x_iconst 3 DL_law_887 (by decide) ?_
  refine x_iadd DL_law_888 ?_
  refine x_sld (6 * t + 3) (lix (k := 3) (by omega)) rfl DL_law_889 (lin (k := 3) (by omega) hL) ?_
  refine x_aload_n 0 DL_law_890 rfl rfl ?_
  refine x_iload_n 3 DL_law_891 rfl rfl ?_
  refine x_iconst 4 DL_law_892 (by decide) ?_
  refine x_iadd DL_law_893 ?_
  refine x_sld (6 * t + 4) (lix (k := 4) (by omega)) rfl DL_law_894 (lin (k := 4) (by omega) hL) ?_
  refine x_aload_n 0 DL_law_895 rfl rfl ?_
  refine x_iload_n 3 DL_law_896 rfl rfl ?_
  refine x_iconst 5 DL_law_897 (by decide) ?_
  refine x_iadd DL_law_898 ?_
  refine x_sld (6 * t + 5) (lix (k := 5) (by omega)) rfl DL_law_899 (lin (k := 5) (by omega) hL) ?_
  refine x_Ve (ci := 12) (av := [vI (xs (6 * t + 1)), vI (xs (6 * t + 2)), vI (xs (6 * t + 3)), vI (xs (6 * t + 4)), vI (xs (6 * t + 5))]) (rest := [vI a]) (st' := [vI a, vI a]) (73 + 312 * t + 0) (4780 + 936 * t + 0) DL_law_900 LL_113 rfl rfl rfl rfl rfl ⟨nle rfl, nle rfl, nle rfl⟩ ⟨by omega, by omega⟩ ⟨by omega, by omega⟩ gm rfl ?_
  exact x_icmp_eq 1108 DL_law_903 (by decide) (fun _ => x_widen (385 + 312 * t) (5716 + 936 * t) (by omega) (by omega) (back _ _ _ h2)) (fun q => absurd rfl q)
theorem law_clear {K : gK} {b L t : Nat} {xs : Nat → Int32} {ι : gIm} {ρ : gRm} {Λ : gLm} (hL : L ≤ 3072) (h6 : 6 * t + 6 ≤ L) (hI : Inv t ι ρ Λ) (back : backTo K b L xs t) : gX K (some (b, L, xs)) 37 600000 7302250 jL_law 908 [some (vB b), some (vR 0), some (vR 40), some (vI (nI (6 * t)))] [] (73 + 312 * t) (4780 + 936 * t) ι ρ Λ (fun r _ _ _ => r = some (vI 1)) := by
  obtain ⟨yr, wk, nh, nr, nb, ns, np, ch, h⟩ := hI
  obtain ⟨a, ι1, ρ1, Λ1, ι2, gx, gm, h2⟩ := o_clear h (by omega)  K
  refine x_aload_n 1 DL_law_908 rfl rfl ?_
  refine x_Ve (ci := 11) (av := []) (rest := []) (st' := [vI a]) (73 + 312 * t + 0) (4780 + 936 * t + 0) DL_law_909 LL_114 rfl rfl rfl rfl rfl ⟨nle rfl, nle rfl, nle rfl⟩ ⟨rfl, by omega⟩ ⟨rfl, by omega⟩ gx rfl ?_
  refine x_aload_n 2 DL_law_912 rfl rfl ?_
  refine x_Ve (ci := 12) (av := []) (rest := [vI a]) (st' := [vI a, vI a]) (73 + 312 * t + 0) (4780 + 936 * t + 0) DL_law_913 LL_117 rfl rfl rfl rfl rfl ⟨nle rfl, nle rfl, nle rfl⟩ ⟨by omega, by omega⟩ ⟨by omega, by omega⟩ gm rfl ?_
  exact x_icmp_eq 1108 DL_law_916 (by decide) (fun _ => x_widen (385 + 312 * t) (5716 + 936 * t) (by omega) (by omega) (back _ _ _ h2)) (fun q => absurd rfl q)
theorem law_plan {K : gK} {b L t : Nat} {xs : Nat → Int32} {ι : gIm} {ρ : gRm} {Λ : gLm} (hL : L ≤ 3072) (h6 : 6 * t + 6 ≤ L) (hI : Inv t ι ρ Λ) (back : backTo K b L xs t) : gX K (some (b, L, xs)) 37 600000 7302250 jL_law 921 [some (vB b), some (vR 0), some (vR 40), some (vI (nI (6 * t)))] [] (73 + 312 * t) (4780 + 936 * t) ι ρ Λ (fun r _ _ _ => r = some (vI 1)) := by
  obtain ⟨yr, wk, nh, nr, nb, ns, np, ch, h⟩ := hI
  obtain ⟨a, ι1, ρ1, Λ1, ι2, gx, gm, h2⟩ := o_plan h  K
  refine x_aload_n 1 DL_law_921 rfl rfl ?_
  refine x_Ve (ci := 11) (av := []) (rest := []) (st' := [vI a]) (73 + 312 * t + 0) (4780 + 936 * t + 0) DL_law_922 LL_118 rfl rfl rfl rfl rfl ⟨nle rfl, nle rfl, nle rfl⟩ ⟨rfl, by omega⟩ ⟨rfl, by omega⟩ gx rfl ?_
  refine x_aload_n 2 DL_law_925 rfl rfl ?_
  refine x_Ve (ci := 12) (av := []) (rest := [vI a]) (st' := [vI a, vI a]) (73 + 312 * t + 0) (4780 + 936 * t + 0) DL_law_926 LL_121 rfl rfl rfl rfl rfl ⟨nle rfl, nle rfl, nle rfl⟩ ⟨by omega, by omega⟩ ⟨by omega, by omega⟩ gm rfl ?_
  exact x_icmp_eq 1108 DL_law_929 (by decide) (fun _ => x_widen (385 + 312 * t) (5716 + 936 * t) (by omega) (by omega) (back _ _ _ h2)) (fun q => absurd rfl q)
theorem law_planAt {K : gK} {b L t : Nat} {xs : Nat → Int32} {ι : gIm} {ρ : gRm} {Λ : gLm} (hL : L ≤ 3072) (h6 : 6 * t + 6 ≤ L) (hI : Inv t ι ρ Λ) (back : backTo K b L xs t) : gX K (some (b, L, xs)) 37 600000 7302250 jL_law 934 [some (vB b), some (vR 0), some (vR 40), some (vI (nI (6 * t)))] [] (73 + 312 * t) (4780 + 936 * t) ι ρ Λ (fun r _ _ _ => r = some (vI 1)) := by
  obtain ⟨yr, wk, nh, nr, nb, ns, np, ch, h⟩ := hI
  obtain ⟨a, ι1, ρ1, Λ1, ι2, gx, gm, h2⟩ := o_planAt h (xs (6 * t + 1)) K
  refine x_aload_n 1 DL_law_934 rfl rfl ?_
  refine x_aload_n 0 DL_law_935 rfl rfl ?_
  refine x_iload_n 3 DL_law_936 rfl rfl ?_
  refine x_iconst 1 DL_law_937 (by decide) ?_
  refine x_iadd DL_law_938 ?_
  refine x_sld (6 * t + 1) (lix (k := 1) (by omega)) rfl DL_law_939 (lin (k := 1) (by omega) hL) ?_
  refine x_Ve (ci := 11) (av := [vI (xs (6 * t + 1))]) (rest := []) (st' := [vI a]) (73 + 312 * t + 0) (4780 + 936 * t + 0) DL_law_940 LL_122 rfl rfl rfl rfl rfl ⟨nle rfl, nle rfl, nle rfl⟩ ⟨rfl, by omega⟩ ⟨rfl, by omega⟩ gx rfl ?_
  refine x_aload_n 2 DL_law_943 rfl rfl ?_
  refine x_aload_n 0 DL_law_944 rfl rfl ?_
  refine x_iload_n 3 DL_law_945 rfl rfl ?_
  refine x_iconst 1 DL_law_946 (by decide) ?_
  refine x_iadd DL_law_947 ?_
  refine x_sld (6 * t + 1) (lix (k := 1) (by omega)) rfl DL_law_948 (lin (k := 1) (by omega) hL) ?_
  refine x_Ve (ci := 12) (av := [vI (xs (6 * t + 1))]) (rest := [vI a]) (st' := [vI a, vI a]) (73 + 312 * t + 0) (4780 + 936 * t + 0) DL_law_949 LL_125 rfl rfl rfl rfl rfl ⟨nle rfl, nle rfl, nle rfl⟩ ⟨by omega, by omega⟩ ⟨by omega, by omega⟩ gm rfl ?_
  exact x_icmp_eq 1108 DL_law_952 (by decide) (fun _ => x_widen (385 + 312 * t) (5716 + 936 * t) (by omega) (by omega) (back _ _ _ h2)) (fun q => absurd rfl q)
theorem law_person {K : gK} {b L t : Nat} {xs : Nat → Int32} {ι : gIm} {ρ : gRm} {Λ : gLm} (hL : L ≤ 3072) (h6 : 6 * t + 6 ≤ L) (hI : Inv t ι ρ Λ) (back : backTo K b L xs t) : gX K (some (b, L, xs)) 37 600000 7302250 jL_law 957 [some (vB b), some (vR 0), some (vR 40), some (vI (nI (6 * t)))] [] (73 + 312 * t) (4780 + 936 * t) ι ρ Λ (fun r _ _ _ => r = some (vI 1)) := by
  obtain ⟨yr, wk, nh, nr, nb, ns, np, ch, h⟩ := hI
  obtain ⟨a, ι1, ρ1, Λ1, ι2, gx, gm, h2⟩ := o_person h (xs (6 * t + 1)) (xs (6 * t + 2)) K
  refine x_aload_n 1 DL_law_957 rfl rfl ?_
  refine x_aload_n 0 DL_law_958 rfl rfl ?_
  refine x_iload_n 3 DL_law_959 rfl rfl ?_
  refine x_iconst 1 DL_law_960 (by decide) ?_
  refine x_iadd DL_law_961 ?_
  refine x_sld (6 * t + 1) (lix (k := 1) (by omega)) rfl DL_law_962 (lin (k := 1) (by omega) hL) ?_
  refine x_aload_n 0 DL_law_963 rfl rfl ?_
  refine x_iload_n 3 DL_law_964 rfl rfl ?_
  refine x_iconst 2 DL_law_965 (by decide) ?_
  refine x_iadd DL_law_966 ?_
  refine x_sld (6 * t + 2) (lix (k := 2) (by omega)) rfl DL_law_967 (lin (k := 2) (by omega) hL) ?_
  refine x_Ve (ci := 11) (av := [vI (xs (6 * t + 1)), vI (xs (6 * t + 2))]) (rest := []) (st' := [vI a]) (73 + 312 * t + 0) (4780 + 936 * t + 0) DL_law_968 LL_126 rfl rfl rfl rfl rfl ⟨nle rfl, nle rfl, nle rfl⟩ ⟨rfl, by omega⟩ ⟨rfl, by omega⟩ gx rfl ?_
  refine x_aload_n 2 DL_law_971 rfl rfl ?_
  refine x_aload_n 0 DL_law_972 rfl rfl ?_
  refine x_iload_n 3 DL_law_973 rfl rfl ?_
  refine x_iconst 1 DL_law_974 (by decide) ?_
  refine x_iadd DL_law_975 ?_
  refine x_sld (6 * t + 1) (lix (k := 1) (by omega)) rfl DL_law_976 (lin (k := 1) (by omega) hL) ?_
  refine x_aload_n 0 DL_law_977 rfl rfl ?_
  refine x_iload_n 3 DL_law_978 rfl rfl ?_
  refine x_iconst 2 DL_law_979 (by decide) ?_
  refine x_iadd DL_law_980 ?_
  refine x_sld (6 * t + 2) (lix (k := 2) (by omega)) rfl DL_law_981 (lin (k := 2) (by omega) hL) ?_
  refine x_Ve (ci := 12) (av := [vI (xs (6 * t + 1)), vI (xs (6 * t + 2))]) (rest := [vI a]) (st' := [vI a, vI a]) (73 + 312 * t + 0) (4780 + 936 * t + 0) DL_law_982 LL_129 rfl rfl rfl rfl rfl ⟨nle rfl, nle rfl, nle rfl⟩ ⟨by omega, by omega⟩ ⟨by omega, by omega⟩ gm rfl ?_
  exact x_icmp_eq 1108 DL_law_985 (by decide) (fun _ => x_widen (385 + 312 * t) (5716 + 936 * t) (by omega) (by omega) (back _ _ _ h2)) (fun q => absurd rfl q)
theorem law_alive_0 {K : gK} {b L t : Nat} {xs : Nat → Int32} {ι : gIm} {ρ : gRm} {Λ : gLm} (hL : L ≤ 3072) (h6 : 6 * t + 6 ≤ L) (hI : Inv t ι ρ Λ) (back : backTo K b L xs t) (hz : xs (6 * t + 2) = 0) : gX K (some (b, L, xs)) 37 600000 7302250 jL_law 990 [some (vB b), some (vR 0), some (vR 40), some (vI (nI (6 * t)))] [] (73 + 312 * t) (4780 + 936 * t) ι ρ Λ (fun r _ _ _ => r = some (vI 1)) := by
  obtain ⟨yr, wk, nh, nr, nb, ns, np, ch, h⟩ := hI
  obtain ⟨a, ι1, ρ1, Λ1, ι2, gx, gm, h2⟩ := o_alive h (xs (6 * t + 1)) 0 (Or.inl rfl) K
  refine x_aload_n 1 DL_law_990 rfl rfl ?_
  refine x_aload_n 0 DL_law_991 rfl rfl ?_
  refine x_iload_n 3 DL_law_992 rfl rfl ?_
  refine x_iconst 1 DL_law_993 (by decide) ?_
  refine x_iadd DL_law_994 ?_
  refine x_sld (6 * t + 1) (lix (k := 1) (by omega)) rfl DL_law_995 (lin (k := 1) (by omega) hL) ?_
  refine x_aload_n 0 DL_law_996 rfl rfl ?_
  refine x_iload_n 3 DL_law_997 rfl rfl ?_
  refine x_iconst 2 DL_law_998 (by decide) ?_
  refine x_iadd DL_law_999 ?_
  refine x_sld (6 * t + 2) (lix (k := 2) (by omega)) rfl DL_law_1000 (lin (k := 2) (by omega) hL) ?_
  refine x_if_eq 1008 DL_law_1001 (by decide) (fun _ => ?_) (fun q => absurd hz q)
  refine x_iconst 0 DL_law_1008 (by decide) ?_
  refine x_Ve (ci := 11) (av := [vI (xs (6 * t + 1)), vI 0]) (rest := []) (st' := [vI a]) (73 + 312 * t + 0) (4780 + 936 * t + 0) DL_law_1009 LL_130 rfl rfl rfl rfl rfl ⟨nle rfl, nle rfl, nle rfl⟩ ⟨rfl, by omega⟩ ⟨rfl, by omega⟩ gx rfl ?_
  refine x_aload_n 2 DL_law_1012 rfl rfl ?_
  refine x_aload_n 0 DL_law_1013 rfl rfl ?_
  refine x_iload_n 3 DL_law_1014 rfl rfl ?_
  refine x_iconst 1 DL_law_1015 (by decide) ?_
  refine x_iadd DL_law_1016 ?_
  refine x_sld (6 * t + 1) (lix (k := 1) (by omega)) rfl DL_law_1017 (lin (k := 1) (by omega) hL) ?_
  refine x_aload_n 0 DL_law_1018 rfl rfl ?_
  refine x_iload_n 3 DL_law_1019 rfl rfl ?_
  refine x_iconst 2 DL_law_1020 (by decide) ?_
  refine x_iadd DL_law_1021 ?_
  refine x_sld (6 * t + 2) (lix (k := 2) (by omega)) rfl DL_law_1022 (lin (k := 2) (by omega) hL) ?_
  refine x_if_eq 1030 DL_law_1023 (by decide) (fun _ => ?_) (fun q => absurd hz q)
  refine x_iconst 0 DL_law_1030 (by decide) ?_
  refine x_Ve (ci := 12) (av := [vI (xs (6 * t + 1)), vI 0]) (rest := [vI a]) (st' := [vI a, vI a]) (73 + 312 * t + 0) (4780 + 936 * t + 0) DL_law_1031 LL_134 rfl rfl rfl rfl rfl ⟨nle rfl, nle rfl, nle rfl⟩ ⟨by omega, by omega⟩ ⟨by omega, by omega⟩ gm rfl ?_
  exact x_icmp_eq 1108 DL_law_1034 (by decide) (fun _ => x_widen (385 + 312 * t) (5716 + 936 * t) (by omega) (by omega) (back _ _ _ h2)) (fun q => absurd rfl q)
theorem law_alive_1 {K : gK} {b L t : Nat} {xs : Nat → Int32} {ι : gIm} {ρ : gRm} {Λ : gLm} (hL : L ≤ 3072) (h6 : 6 * t + 6 ≤ L) (hI : Inv t ι ρ Λ) (back : backTo K b L xs t) (hz : ¬ xs (6 * t + 2) = 0) : gX K (some (b, L, xs)) 37 600000 7302250 jL_law 990 [some (vB b), some (vR 0), some (vR 40), some (vI (nI (6 * t)))] [] (73 + 312 * t) (4780 + 936 * t) ι ρ Λ (fun r _ _ _ => r = some (vI 1)) := by
  obtain ⟨yr, wk, nh, nr, nb, ns, np, ch, h⟩ := hI
  obtain ⟨a, ι1, ρ1, Λ1, ι2, gx, gm, h2⟩ := o_alive h (xs (6 * t + 1)) 1 (Or.inr rfl) K
  refine x_aload_n 1 DL_law_990 rfl rfl ?_
  refine x_aload_n 0 DL_law_991 rfl rfl ?_
  refine x_iload_n 3 DL_law_992 rfl rfl ?_
  refine x_iconst 1 DL_law_993 (by decide) ?_
  refine x_iadd DL_law_994 ?_
  refine x_sld (6 * t + 1) (lix (k := 1) (by omega)) rfl DL_law_995 (lin (k := 1) (by omega) hL) ?_
  refine x_aload_n 0 DL_law_996 rfl rfl ?_
  refine x_iload_n 3 DL_law_997 rfl rfl ?_
  refine x_iconst 2 DL_law_998 (by decide) ?_
  refine x_iadd DL_law_999 ?_
  refine x_sld (6 * t + 2) (lix (k := 2) (by omega)) rfl DL_law_1000 (lin (k := 2) (by omega) hL) ?_
  refine x_if_eq 1008 DL_law_1001 (by decide) (fun q => absurd q hz) (fun _ => ?_)
  refine x_iconst 1 DL_law_1004 (by decide) ?_
  refine x_goto 1009 DL_law_1005 (by decide) ?_
  refine x_Ve (ci := 11) (av := [vI (xs (6 * t + 1)), vI 1]) (rest := []) (st' := [vI a]) (73 + 312 * t + 0) (4780 + 936 * t + 0) DL_law_1009 LL_130 rfl rfl rfl rfl rfl ⟨nle rfl, nle rfl, nle rfl⟩ ⟨rfl, by omega⟩ ⟨rfl, by omega⟩ gx rfl ?_
  refine x_aload_n 2 DL_law_1012 rfl rfl ?_
  refine x_aload_n 0 DL_law_1013 rfl rfl ?_
  refine x_iload_n 3 DL_law_1014 rfl rfl ?_
  refine x_iconst 1 DL_law_1015 (by decide) ?_
  refine x_iadd DL_law_1016 ?_
  refine x_sld (6 * t + 1) (lix (k := 1) (by omega)) rfl DL_law_1017 (lin (k := 1) (by omega) hL) ?_
  refine x_aload_n 0 DL_law_1018 rfl rfl ?_
  refine x_iload_n 3 DL_law_1019 rfl rfl ?_
  refine x_iconst 2 DL_law_1020 (by decide) ?_
  refine x_iadd DL_law_1021 ?_
  refine x_sld (6 * t + 2) (lix (k := 2) (by omega)) rfl DL_law_1022 (lin (k := 2) (by omega) hL) ?_
  refine x_if_eq 1030 DL_law_1023 (by decide) (fun q => absurd q hz) (fun _ => ?_)
  refine x_iconst 1 DL_law_1026 (by decide) ?_
  refine x_goto 1031 DL_law_1027 (by decide) ?_
  refine x_Ve (ci := 12) (av := [vI (xs (6 * t + 1)), vI 1]) (rest := [vI a]) (st' := [vI a, vI a]) (73 + 312 * t + 0) (4780 + 936 * t + 0) DL_law_1031 LL_134 rfl rfl rfl rfl rfl ⟨nle rfl, nle rfl, nle rfl⟩ ⟨by omega, by omega⟩ ⟨by omega, by omega⟩ gm rfl ?_
  exact x_icmp_eq 1108 DL_law_1034 (by decide) (fun _ => x_widen (385 + 312 * t) (5716 + 936 * t) (by omega) (by omega) (back _ _ _ h2)) (fun q => absurd rfl q)
theorem law_master {K : gK} {b L t : Nat} {xs : Nat → Int32} {ι : gIm} {ρ : gRm} {Λ : gLm} (hL : L ≤ 3072) (h6 : 6 * t + 6 ≤ L) (hI : Inv t ι ρ Λ) (back : backTo K b L xs t) : gX K (some (b, L, xs)) 37 600000 7302250 jL_law 1039 [some (vB b), some (vR 0), some (vR 40), some (vI (nI (6 * t)))] [] (73 + 312 * t) (4780 + 936 * t) ι ρ Λ (fun r _ _ _ => r = some (vI 1)) := by
  obtain ⟨yr, wk, nh, nr, nb, ns, np, ch, h⟩ := hI
  obtain ⟨a, ι1, ρ1, Λ1, ι2, gx, gm, h2⟩ := o_master h  K
  refine x_aload_n 1 DL_law_1039 rfl rfl ?_
  refine x_Ve (ci := 11) (av := []) (rest := []) (st' := [vI a]) (73 + 312 * t + 0) (4780 + 936 * t + 0) DL_law_1040 LL_135 rfl rfl rfl rfl rfl ⟨nle rfl, nle rfl, nle rfl⟩ ⟨rfl, by omega⟩ ⟨rfl, by omega⟩ gx rfl ?_
  refine x_aload_n 2 DL_law_1043 rfl rfl ?_
  refine x_Ve (ci := 12) (av := []) (rest := [vI a]) (st' := [vI a, vI a]) (73 + 312 * t + 0) (4780 + 936 * t + 0) DL_law_1044 LL_138 rfl rfl rfl rfl rfl ⟨nle rfl, nle rfl, nle rfl⟩ ⟨by omega, by omega⟩ ⟨by omega, by omega⟩ gm rfl ?_
  exact x_icmp_eq 1108 DL_law_1047 (by decide) (fun _ => x_widen (385 + 312 * t) (5716 + 936 * t) (by omega) (by omega) (back _ _ _ h2)) (fun q => absurd rfl q)
theorem law_ropeOf {K : gK} {b L t : Nat} {xs : Nat → Int32} {ι : gIm} {ρ : gRm} {Λ : gLm} (hL : L ≤ 3072) (h6 : 6 * t + 6 ≤ L) (hI : Inv t ι ρ Λ) (back : backTo K b L xs t) : gX K (some (b, L, xs)) 37 600000 7302250 jL_law 1052 [some (vB b), some (vR 0), some (vR 40), some (vI (nI (6 * t)))] [] (73 + 312 * t) (4780 + 936 * t) ι ρ Λ (fun r _ _ _ => r = some (vI 1)) := by
  obtain ⟨yr, wk, nh, nr, nb, ns, np, ch, h⟩ := hI
  obtain ⟨a, ι1, ρ1, Λ1, ι2, gx, gm, h2⟩ := o_ropeOf h (xs (6 * t + 1)) (xs (6 * t + 2)) K
  refine x_aload_n 1 DL_law_1052 rfl rfl ?_
  refine x_aload_n 0 DL_law_1053 rfl rfl ?_
  refine x_iload_n 3 DL_law_1054 rfl rfl ?_
  refine x_iconst 1 DL_law_1055 (by decide) ?_
  refine x_iadd DL_law_1056 ?_
  refine x_sld (6 * t + 1) (lix (k := 1) (by omega)) rfl DL_law_1057 (lin (k := 1) (by omega) hL) ?_
  refine x_aload_n 0 DL_law_1058 rfl rfl ?_
  refine x_iload_n 3 DL_law_1059 rfl rfl ?_
  refine x_iconst 2 DL_law_1060 (by decide) ?_
  refine x_iadd DL_law_1061 ?_
  refine x_sld (6 * t + 2) (lix (k := 2) (by omega)) rfl DL_law_1062 (lin (k := 2) (by omega) hL) ?_
  refine x_Ve (ci := 11) (av := [vI (xs (6 * t + 1)), vI (xs (6 * t + 2))]) (rest := []) (st' := [vI a]) (73 + 312 * t + 0) (4780 + 936 * t + 0) DL_law_1063 LL_139 rfl rfl rfl rfl rfl ⟨nle rfl, nle rfl, nle rfl⟩ ⟨rfl, by omega⟩ ⟨rfl, by omega⟩ gx rfl ?_
  refine x_aload_n 2 DL_law_1066 rfl rfl ?_
  refine x_aload_n 0 DL_law_1067 rfl rfl ?_
  refine x_iload_n 3 DL_law_1068 rfl rfl ?_
  refine x_iconst 1 DL_law_1069 (by decide) ?_
  refine x_iadd DL_law_1070 ?_
  refine x_sld (6 * t + 1) (lix (k := 1) (by omega)) rfl DL_law_1071 (lin (k := 1) (by omega) hL) ?_
  refine x_aload_n 0 DL_law_1072 rfl rfl ?_
  refine x_iload_n 3 DL_law_1073 rfl rfl ?_
  refine x_iconst 2 DL_law_1074 (by decide) ?_
  refine x_iadd DL_law_1075 ?_
  refine x_sld (6 * t + 2) (lix (k := 2) (by omega)) rfl DL_law_1076 (lin (k := 2) (by omega) hL) ?_
  refine x_Ve (ci := 12) (av := [vI (xs (6 * t + 1)), vI (xs (6 * t + 2))]) (rest := [vI a]) (st' := [vI a, vI a]) (73 + 312 * t + 0) (4780 + 936 * t + 0) DL_law_1077 LL_142 rfl rfl rfl rfl rfl ⟨nle rfl, nle rfl, nle rfl⟩ ⟨by omega, by omega⟩ ⟨by omega, by omega⟩ gm rfl ?_
  exact x_icmp_eq 1108 DL_law_1080 (by decide) (fun _ => x_widen (385 + 312 * t) (5716 + 936 * t) (by omega) (by omega) (back _ _ _ h2)) (fun q => absurd rfl q)
theorem law_count {K : gK} {b L t : Nat} {xs : Nat → Int32} {ι : gIm} {ρ : gRm} {Λ : gLm} (hL : L ≤ 3072) (h6 : 6 * t + 6 ≤ L) (hI : Inv t ι ρ Λ) (back : backTo K b L xs t) : gX K (some (b, L, xs)) 37 600000 7302250 jL_law 1085 [some (vB b), some (vR 0), some (vR 40), some (vI (nI (6 * t)))] [] (73 + 312 * t) (4780 + 936 * t) ι ρ Λ (fun r _ _ _ => r = some (vI 1)) := by
  obtain ⟨yr, wk, nh, nr, nb, ns, np, ch, h⟩ := hI
  obtain ⟨a, ι1, ρ1, Λ1, ι2, gx, gm, h2⟩ := o_count h (xs (6 * t + 1)) K
  refine x_aload_n 1 DL_law_1085 rfl rfl ?_
  refine x_aload_n 0 DL_law_1086 rfl rfl ?_
  refine x_iload_n 3 DL_law_1087 rfl rfl ?_
  refine x_iconst 1 DL_law_1088 (by decide) ?_
  refine x_iadd DL_law_1089 ?_
  refine x_sld (6 * t + 1) (lix (k := 1) (by omega)) rfl DL_law_1090 (lin (k := 1) (by omega) hL) ?_
  refine x_Ve (ci := 11) (av := [vI (xs (6 * t + 1))]) (rest := []) (st' := [vI a]) (73 + 312 * t + 0) (4780 + 936 * t + 0) DL_law_1091 LL_143 rfl rfl rfl rfl rfl ⟨nle rfl, nle rfl, nle rfl⟩ ⟨rfl, by omega⟩ ⟨rfl, by omega⟩ gx rfl ?_
  refine x_aload_n 2 DL_law_1094 rfl rfl ?_
  refine x_aload_n 0 DL_law_1095 rfl rfl ?_
  refine x_iload_n 3 DL_law_1096 rfl rfl ?_
  refine x_iconst 1 DL_law_1097 (by decide) ?_
  refine x_iadd DL_law_1098 ?_
  refine x_sld (6 * t + 1) (lix (k := 1) (by omega)) rfl DL_law_1099 (lin (k := 1) (by omega) hL) ?_
  refine x_Ve (ci := 12) (av := [vI (xs (6 * t + 1))]) (rest := [vI a]) (st' := [vI a, vI a]) (73 + 312 * t + 0) (4780 + 936 * t + 0) DL_law_1100 LL_146 rfl rfl rfl rfl rfl ⟨nle rfl, nle rfl, nle rfl⟩ ⟨by omega, by omega⟩ ⟨by omega, by omega⟩ gm rfl ?_
  exact x_icmp_eq 1108 DL_law_1103 (by decide) (fun _ => x_widen (385 + 312 * t) (5716 + 936 * t) (by omega) (by omega) (back _ _ _ h2)) (fun q => absurd rfl q)