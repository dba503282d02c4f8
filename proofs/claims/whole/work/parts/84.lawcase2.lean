/-! THE LAW: its cases, more -/
theorem law_c17 {xs : Nat → Int32} {i L : Nat} {D : Mem} {S : St} (h1 : INV1 D S) (h2 : INV2 D S) (hx : D 2003 = xs) (hl : D 2004 0 = nI L) (hi : i + 6 ≤ L) (hL : L ≤ 3072) (K : ∀ D' S', INV1 D' S' → INV2 D' S' → D' 2003 = xs → D' 2004 0 = nI L → X 23 138 j_L_law 1151 (LSL i) [] (138, P0, D') QL) : X 23 138 j_L_law 671 (LSL i) [] (138, P0, D) QL := by
  refine X_aload_n (nx := 672) dL_law_671 rfl rfl rfl ?_
  refine L_arg (k := 1) hx hl hi hL (by decide) dL_law_672 rfl dL_law_673 rfl dL_law_674 rfl (by decide) dL_law_675 rfl dL_law_676 rfl ?_
  refine L_arg (k := 2) hx hl hi hL (by decide) dL_law_677 rfl dL_law_678 rfl dL_law_679 rfl (by decide) dL_law_680 rfl dL_law_681 rfl ?_
  refine Z_Vi2 (nx := 685) dL_law_682 rfl ml_RL_85 kj_X7_witness kv_X7_witness (sp_X7_witness h1) (by first | assumption | rfl | decide | omega) (by first | assumption | rfl | decide | omega) (by decide) rfl (by decide) (by exact Nat.le_of_ble_eq_true rfl) (fun u1 D1 g1 => ?_)
  obtain ⟨h2, hx, hl, hg⟩ := L_ck h2 g1 hx hl
  refine X_aload_n (nx := 686) dL_law_685 rfl rfl rfl ?_
  refine L_arg (k := 1) hx hl hi hL (by decide) dL_law_686 rfl dL_law_687 rfl dL_law_688 rfl (by decide) dL_law_689 rfl dL_law_690 rfl ?_
  refine L_arg (k := 2) hx hl hi hL (by decide) dL_law_691 rfl dL_law_692 rfl dL_law_693 rfl (by decide) dL_law_694 rfl dL_law_695 rfl ?_
  refine Z_Vi2 (nx := 699) dL_law_696 rfl ml_RL_88 kj_X8_witness kv_X8_witness (sp_X8_witness h2 h1.wf) (by first | assumption | rfl | decide | omega) (by first | assumption | rfl | decide | omega) (by decide) rfl (by decide) (by exact Nat.le_of_ble_eq_true rfl) (fun u2 D2 g2 => ?_)
  obtain ⟨he, k1, k2, k3, k4⟩ := hg g2
  exact X_icmp_eq (tgt := 1151) (nx := 702) dL_law_699 rfl rfl (fun _ => K _ _ k1 k2 k3 k4) (fun q => absurd he q)
theorem law_c18 {xs : Nat → Int32} {i L : Nat} {D : Mem} {S : St} (h1 : INV1 D S) (h2 : INV2 D S) (hx : D 2003 = xs) (hl : D 2004 0 = nI L) (hi : i + 6 ≤ L) (hL : L ≤ 3072) (K : ∀ D' S', INV1 D' S' → INV2 D' S' → D' 2003 = xs → D' 2004 0 = nI L → X 23 138 j_L_law 1151 (LSL i) [] (138, P0, D') QL) : X 23 138 j_L_law 704 (LSL i) [] (138, P0, D) QL := by
  refine X_aload_n (nx := 705) dL_law_704 rfl rfl rfl ?_
  refine L_arg (k := 1) hx hl hi hL (by decide) dL_law_705 rfl dL_law_706 rfl dL_law_707 rfl (by decide) dL_law_708 rfl dL_law_709 rfl ?_
  refine Z_Vi1 (nx := 713) dL_law_710 rfl ml_RL_89 kj_X7_clash kv_X7_clash (sp_X7_clash h1) (by first | assumption | rfl | decide | omega) (by first | assumption | rfl | decide | omega) (by decide) rfl (by decide) (by exact Nat.le_of_ble_eq_true rfl) (fun u1 D1 g1 => ?_)
  obtain ⟨h2, hx, hl, hg⟩ := L_ck h2 g1 hx hl
  refine X_aload_n (nx := 714) dL_law_713 rfl rfl rfl ?_
  refine L_arg (k := 1) hx hl hi hL (by decide) dL_law_714 rfl dL_law_715 rfl dL_law_716 rfl (by decide) dL_law_717 rfl dL_law_718 rfl ?_
  refine Z_Vi1 (nx := 722) dL_law_719 rfl ml_RL_92 kj_X8_clash kv_X8_clash (sp_X8_clash h2 h1.wf) (by first | assumption | rfl | decide | omega) (by first | assumption | rfl | decide | omega) (by decide) rfl (by decide) (by exact Nat.le_of_ble_eq_true rfl) (fun u2 D2 g2 => ?_)
  obtain ⟨he, k1, k2, k3, k4⟩ := hg g2
  exact X_icmp_eq (tgt := 1151) (nx := 725) dL_law_722 rfl rfl (fun _ => K _ _ k1 k2 k3 k4) (fun q => absurd he q)
theorem law_c19 {xs : Nat → Int32} {i L : Nat} {D : Mem} {S : St} (h1 : INV1 D S) (h2 : INV2 D S) (hx : D 2003 = xs) (hl : D 2004 0 = nI L) (hi : i + 6 ≤ L) (hL : L ≤ 3072) (K : ∀ D' S', INV1 D' S' → INV2 D' S' → D' 2003 = xs → D' 2004 0 = nI L → X 23 138 j_L_law 1151 (LSL i) [] (138, P0, D') QL) : X 23 138 j_L_law 727 (LSL i) [] (138, P0, D) QL := by
  refine X_aload_n (nx := 728) dL_law_727 rfl rfl rfl ?_
  refine L_arg (k := 1) hx hl hi hL (by decide) dL_law_728 rfl dL_law_729 rfl dL_law_730 rfl (by decide) dL_law_731 rfl dL_law_732 rfl ?_
  refine L_arg (k := 2) hx hl hi hL (by decide) dL_law_733 rfl dL_law_734 rfl dL_law_735 rfl (by decide) dL_law_736 rfl dL_law_737 rfl ?_
  refine L_arg (k := 3) hx hl hi hL (by decide) dL_law_738 rfl dL_law_739 rfl dL_law_740 rfl (by decide) dL_law_741 rfl dL_law_742 rfl ?_
  refine L_arg (k := 4) hx hl hi hL (by decide) dL_law_743 rfl dL_law_744 rfl dL_law_745 rfl (by decide) dL_law_746 rfl dL_law_747 rfl ?_
  refine L_arg (k := 5) hx hl hi hL (by decide) dL_law_748 rfl dL_law_749 rfl dL_law_750 rfl (by decide) dL_law_751 rfl dL_law_752 rfl ?_
  refine Z_Vi5 (nx := 756) dL_law_753 rfl ml_RL_93 kj_X7_build kv_X7_build (sp_X7_build h1) (by first | assumption | rfl | decide | omega) (by first | assumption | rfl | decide | omega) (by decide) rfl (by decide) (by exact Nat.le_of_ble_eq_true rfl) (fun u1 D1 g1 => ?_)
  obtain ⟨h2, hx, hl, hg⟩ := L_ck h2 g1 hx hl
  refine X_aload_n (nx := 757) dL_law_756 rfl rfl rfl ?_
  refine L_arg (k := 1) hx hl hi hL (by decide) dL_law_757 rfl dL_law_758 rfl dL_law_759 rfl (by decide) dL_law_760 rfl dL_law_761 rfl ?_
  refine L_arg (k := 2) hx hl hi hL (by decide) dL_law_762 rfl dL_law_763 rfl dL_law_764 rfl (by decide) dL_law_765 rfl dL_law_766 rfl ?_
  refine L_arg (k := 3) hx hl hi hL (by decide) dL_law_767 rfl dL_law_768 rfl dL_law_769 rfl (by decide) dL_law_770 rfl dL_law_771 rfl ?_
  refine L_arg (k := 4) hx hl hi hL (by decide) dL_law_772 rfl dL_law_773 rfl dL_law_774 rfl (by decide) dL_law_775 rfl dL_law_776 rfl ?_
  refine L_arg (k := 5) hx hl hi hL (by decide) dL_law_777 rfl dL_law_778 rfl dL_law_779 rfl (by decide) dL_law_780 rfl dL_law_781 rfl ?_
  refine Z_Vi5 (nx := 785) dL_law_782 rfl ml_RL_97 kj_X8_build kv_X8_build (sp_X8_build h2 h1.wf) (by first | assumption | rfl | decide | omega) (by first | assumption | rfl | decide | omega) (by decide) rfl (by decide) (by exact Nat.le_of_ble_eq_true rfl) (fun u2 D2 g2 => ?_)
  obtain ⟨he, k1, k2, k3, k4⟩ := hg g2
  exact X_icmp_eq (tgt := 1151) (nx := 788) dL_law_785 rfl rfl (fun _ => K _ _ k1 k2 k3 k4) (fun q => absurd he q)
theorem law_c20 {xs : Nat → Int32} {i L : Nat} {D : Mem} {S : St} (h1 : INV1 D S) (h2 : INV2 D S) (hx : D 2003 = xs) (hl : D 2004 0 = nI L) (hi : i + 6 ≤ L) (hL : L ≤ 3072) (K : ∀ D' S', INV1 D' S' → INV2 D' S' → D' 2003 = xs → D' 2004 0 = nI L → X 23 138 j_L_law 1151 (LSL i) [] (138, P0, D') QL) : X 23 138 j_L_law 790 (LSL i) [] (138, P0, D) QL := by
  refine X_aload_n (nx := 791) dL_law_790 rfl rfl rfl ?_
  refine L_arg (k := 1) hx hl hi hL (by decide) dL_law_791 rfl dL_law_792 rfl dL_law_793 rfl (by decide) dL_law_794 rfl dL_law_795 rfl ?_
  refine Z_Vi1 (nx := 799) dL_law_796 rfl ml_RL_98 kj_X7_back kv_X7_back (sp_X7_back h1) (by first | assumption | rfl | decide | omega) (by first | assumption | rfl | decide | omega) (by decide) rfl (by decide) (by exact Nat.le_of_ble_eq_true rfl) (fun u1 D1 g1 => ?_)
  obtain ⟨h2, hx, hl, hg⟩ := L_ck h2 g1 hx hl
  refine X_aload_n (nx := 800) dL_law_799 rfl rfl rfl ?_
  refine L_arg (k := 1) hx hl hi hL (by decide) dL_law_800 rfl dL_law_801 rfl dL_law_802 rfl (by decide) dL_law_803 rfl dL_law_804 rfl ?_
  refine Z_Vi1 (nx := 808) dL_law_805 rfl ml_RL_101 kj_X8_back kv_X8_back (sp_X8_back h2 h1.wf) (by first | assumption | rfl | decide | omega) (by first | assumption | rfl | decide | omega) (by decide) rfl (by decide) (by exact Nat.le_of_ble_eq_true rfl) (fun u2 D2 g2 => ?_)
  obtain ⟨he, k1, k2, k3, k4⟩ := hg g2
  exact X_icmp_eq (tgt := 1151) (nx := 811) dL_law_808 rfl rfl (fun _ => K _ _ k1 k2 k3 k4) (fun q => absurd he q)
theorem law_c21 {xs : Nat → Int32} {i L : Nat} {D : Mem} {S : St} (h1 : INV1 D S) (h2 : INV2 D S) (hx : D 2003 = xs) (hl : D 2004 0 = nI L) (hi : i + 6 ≤ L) (hL : L ≤ 3072) (K : ∀ D' S', INV1 D' S' → INV2 D' S' → D' 2003 = xs → D' 2004 0 = nI L → X 23 138 j_L_law 1151 (LSL i) [] (138, P0, D') QL) : X 23 138 j_L_law 813 (LSL i) [] (138, P0, D) QL := by
  refine X_aload_n (nx := 814) dL_law_813 rfl rfl rfl ?_
  refine L_arg (k := 1) hx hl hi hL (by decide) dL_law_814 rfl dL_law_815 rfl dL_law_816 rfl (by decide) dL_law_817 rfl dL_law_818 rfl ?_
  refine L_arg (k := 2) hx hl hi hL (by decide) dL_law_819 rfl dL_law_820 rfl dL_law_821 rfl (by decide) dL_law_822 rfl dL_law_823 rfl ?_
  refine L_arg (k := 3) hx hl hi hL (by decide) dL_law_824 rfl dL_law_825 rfl dL_law_826 rfl (by decide) dL_law_827 rfl dL_law_828 rfl ?_
  refine Z_Vi3 (nx := 832) dL_law_829 rfl ml_RL_102 kj_X7_without kv_X7_without (sp_X7_without h1) (by first | assumption | rfl | decide | omega) (by first | assumption | rfl | decide | omega) (by decide) rfl (by decide) (by exact Nat.le_of_ble_eq_true rfl) (fun u1 D1 g1 => ?_)
  obtain ⟨h2, hx, hl, hg⟩ := L_ck h2 g1 hx hl
  refine X_aload_n (nx := 833) dL_law_832 rfl rfl rfl ?_
  refine L_arg (k := 1) hx hl hi hL (by decide) dL_law_833 rfl dL_law_834 rfl dL_law_835 rfl (by decide) dL_law_836 rfl dL_law_837 rfl ?_
  refine L_arg (k := 2) hx hl hi hL (by decide) dL_law_838 rfl dL_law_839 rfl dL_law_840 rfl (by decide) dL_law_841 rfl dL_law_842 rfl ?_
  refine L_arg (k := 3) hx hl hi hL (by decide) dL_law_843 rfl dL_law_844 rfl dL_law_845 rfl (by decide) dL_law_846 rfl dL_law_847 rfl ?_
  refine Z_Vi3 (nx := 851) dL_law_848 rfl ml_RL_105 kj_X8_without kv_X8_without (sp_X8_without h2 h1.wf) (by first | assumption | rfl | decide | omega) (by first | assumption | rfl | decide | omega) (by decide) rfl (by decide) (by exact Nat.le_of_ble_eq_true rfl) (fun u2 D2 g2 => ?_)
  obtain ⟨he, k1, k2, k3, k4⟩ := hg g2
  exact X_icmp_eq (tgt := 1151) (nx := 854) dL_law_851 rfl rfl (fun _ => K _ _ k1 k2 k3 k4) (fun q => absurd he q)
theorem law_c22 {xs : Nat → Int32} {i L : Nat} {D : Mem} {S : St} (h1 : INV1 D S) (h2 : INV2 D S) (hx : D 2003 = xs) (hl : D 2004 0 = nI L) (hi : i + 6 ≤ L) (hL : L ≤ 3072) (K : ∀ D' S', INV1 D' S' → INV2 D' S' → D' 2003 = xs → D' 2004 0 = nI L → X 23 138 j_L_law 1151 (LSL i) [] (138, P0, D') QL) : X 23 138 j_L_law 856 (LSL i) [] (138, P0, D) QL := by
  refine X_aload_n (nx := 857) dL_law_856 rfl rfl rfl ?_
  refine L_arg (k := 1) hx hl hi hL (by decide) dL_law_857 rfl dL_law_858 rfl dL_law_859 rfl (by decide) dL_law_860 rfl dL_law_861 rfl ?_
  refine Z_Vi1 (nx := 865) dL_law_862 rfl ml_RL_106 kj_X7_best kv_X7_best (sp_X7_best h1) (by first | assumption | rfl | decide | omega) (by first | assumption | rfl | decide | omega) (by decide) rfl (by decide) (by exact Nat.le_of_ble_eq_true rfl) (fun u1 D1 g1 => ?_)
  obtain ⟨h2, hx, hl, hg⟩ := L_ck h2 g1 hx hl
  refine X_aload_n (nx := 866) dL_law_865 rfl rfl rfl ?_
  refine L_arg (k := 1) hx hl hi hL (by decide) dL_law_866 rfl dL_law_867 rfl dL_law_868 rfl (by decide) dL_law_869 rfl dL_law_870 rfl ?_
  refine Z_Vi1 (nx := 874) dL_law_871 rfl ml_RL_109 kj_X8_best kv_X8_best (sp_X8_best h2 h1.wf) (by first | assumption | rfl | decide | omega) (by first | assumption | rfl | decide | omega) (by decide) rfl (by decide) (by exact Nat.le_of_ble_eq_true rfl) (fun u2 D2 g2 => ?_)
  obtain ⟨he, k1, k2, k3, k4⟩ := hg g2
  exact X_icmp_eq (tgt := 1151) (nx := 877) dL_law_874 rfl rfl (fun _ => K _ _ k1 k2 k3 k4) (fun q => absurd he q)
theorem law_c23 {xs : Nat → Int32} {i L : Nat} {D : Mem} {S : St} (h1 : INV1 D S) (h2 : INV2 D S) (hx : D 2003 = xs) (hl : D 2004 0 = nI L) (hi : i + 6 ≤ L) (hL : L ≤ 3072) (K : ∀ D' S', INV1 D' S' → INV2 D' S' → D' 2003 = xs → D' 2004 0 = nI L → X 23 138 j_L_law 1151 (LSL i) [] (138, P0, D') QL) : X 23 138 j_L_law 879 (LSL i) [] (138, P0, D) QL := by
  refine X_aload_n (nx := 880) dL_law_879 rfl rfl rfl ?_
  refine L_arg (k := 1) hx hl hi hL (by decide) dL_law_880 rfl dL_law_881 rfl dL_law_882 rfl (by decide) dL_law_883 rfl dL_law_884 rfl ?_
  refine L_arg (k := 2) hx hl hi hL (by decide) dL_law_885 rfl dL_law_886 rfl dL_law_887 rfl (by decide) dL_law_888 rfl dL_law_889 rfl ?_
  refine L_arg (k := 3) hx hl hi hL (by decide) dL_law_890 rfl dL_law_891 rfl dL_law_892 rfl (by decide) dL_law_893 rfl dL_law_894 rfl ?_
  refine L_arg (k := 4) hx hl hi hL (by decide) dL_law_895 rfl dL_law_896 rfl dL_law_897 rfl (by decide) dL_law_898 rfl dL_law_899 rfl ?_
  refine Z_Vl4 (nx := 903) dL_law_900 rfl ml_RL_110 kj_X7_lost kv_X7_lost (sp_X7_lost h1) (by first | assumption | rfl | decide | omega) (by first | assumption | rfl | decide | omega) (by decide) rfl (by decide) (by exact Nat.le_of_ble_eq_true rfl) (fun u1 D1 g1 => ?_)
  obtain ⟨h2, hx, hl, hg⟩ := L_cl h2 g1 hx hl
  refine X_aload_n (nx := 904) dL_law_903 rfl rfl rfl ?_
  refine L_arg (k := 1) hx hl hi hL (by decide) dL_law_904 rfl dL_law_905 rfl dL_law_906 rfl (by decide) dL_law_907 rfl dL_law_908 rfl ?_
  refine L_arg (k := 2) hx hl hi hL (by decide) dL_law_909 rfl dL_law_910 rfl dL_law_911 rfl (by decide) dL_law_912 rfl dL_law_913 rfl ?_
  refine L_arg (k := 3) hx hl hi hL (by decide) dL_law_914 rfl dL_law_915 rfl dL_law_916 rfl (by decide) dL_law_917 rfl dL_law_918 rfl ?_
  refine L_arg (k := 4) hx hl hi hL (by decide) dL_law_919 rfl dL_law_920 rfl dL_law_921 rfl (by decide) dL_law_922 rfl dL_law_923 rfl ?_
  refine Z_Vl4 (nx := 927) dL_law_924 rfl ml_RL_114 kj_X8_lost kv_X8_lost (sp_X8_lost h2 h1.wf) (by first | assumption | rfl | decide | omega) (by first | assumption | rfl | decide | omega) (by decide) rfl (by decide) (by exact Nat.le_of_ble_eq_true rfl) (fun u2 D2 g2 => ?_)
  obtain ⟨he, k1, k2, k3, k4⟩ := hg g2
  refine X_lcmp (nx := 928) dL_law_927 rfl ?_
  exact X_if_eq (tgt := 1151) (nx := 931) dL_law_928 rfl rfl (fun _ => K _ _ k1 k2 k3 k4) (fun q => absurd ((lg_cmp_eq _ _).mpr he) q)
theorem law_c24 {xs : Nat → Int32} {i L : Nat} {D : Mem} {S : St} (h1 : INV1 D S) (h2 : INV2 D S) (hx : D 2003 = xs) (hl : D 2004 0 = nI L) (hi : i + 6 ≤ L) (hL : L ≤ 3072) (K : ∀ D' S', INV1 D' S' → INV2 D' S' → D' 2003 = xs → D' 2004 0 = nI L → X 23 138 j_L_law 1151 (LSL i) [] (138, P0, D') QL) : X 23 138 j_L_law 933 (LSL i) [] (138, P0, D) QL := by
  refine X_aload_n (nx := 934) dL_law_933 rfl rfl rfl ?_
  refine L_arg (k := 1) hx hl hi hL (by decide) dL_law_934 rfl dL_law_935 rfl dL_law_936 rfl (by decide) dL_law_937 rfl dL_law_938 rfl ?_
  refine L_arg (k := 2) hx hl hi hL (by decide) dL_law_939 rfl dL_law_940 rfl dL_law_941 rfl (by decide) dL_law_942 rfl dL_law_943 rfl ?_
  refine Z_Vl2 (nx := 947) dL_law_944 rfl ml_RL_115 kj_X7_mean kv_X7_mean (sp_X7_mean h1) (by first | assumption | rfl | decide | omega) (by first | assumption | rfl | decide | omega) (by decide) rfl (by decide) (by exact Nat.le_of_ble_eq_true rfl) (fun u1 D1 g1 => ?_)
  obtain ⟨h2, hx, hl, hg⟩ := L_cl h2 g1 hx hl
  refine X_aload_n (nx := 948) dL_law_947 rfl rfl rfl ?_
  refine L_arg (k := 1) hx hl hi hL (by decide) dL_law_948 rfl dL_law_949 rfl dL_law_950 rfl (by decide) dL_law_951 rfl dL_law_952 rfl ?_
  refine L_arg (k := 2) hx hl hi hL (by decide) dL_law_953 rfl dL_law_954 rfl dL_law_955 rfl (by decide) dL_law_956 rfl dL_law_957 rfl ?_
  refine Z_Vl2 (nx := 961) dL_law_958 rfl ml_RL_119 kj_X8_mean kv_X8_mean (sp_X8_mean h2 h1.wf) (by first | assumption | rfl | decide | omega) (by first | assumption | rfl | decide | omega) (by decide) rfl (by decide) (by exact Nat.le_of_ble_eq_true rfl) (fun u2 D2 g2 => ?_)
  obtain ⟨he, k1, k2, k3, k4⟩ := hg g2
  refine X_lcmp (nx := 962) dL_law_961 rfl ?_
  exact X_if_eq (tgt := 1151) (nx := 965) dL_law_962 rfl rfl (fun _ => K _ _ k1 k2 k3 k4) (fun q => absurd ((lg_cmp_eq _ _).mpr he) q)
theorem law_c25 {xs : Nat → Int32} {i L : Nat} {D : Mem} {S : St} (h1 : INV1 D S) (h2 : INV2 D S) (hx : D 2003 = xs) (hl : D 2004 0 = nI L) (hi : i + 6 ≤ L) (hL : L ≤ 3072) (K : ∀ D' S', INV1 D' S' → INV2 D' S' → D' 2003 = xs → D' 2004 0 = nI L → X 23 138 j_L_law 1151 (LSL i) [] (138, P0, D') QL) : X 23 138 j_L_law 967 (LSL i) [] (138, P0, D) QL := by
  refine X_aload_n (nx := 968) dL_law_967 rfl rfl rfl ?_
  refine L_arg (k := 1) hx hl hi hL (by decide) dL_law_968 rfl dL_law_969 rfl dL_law_970 rfl (by decide) dL_law_971 rfl dL_law_972 rfl ?_
  refine L_arg (k := 2) hx hl hi hL (by decide) dL_law_973 rfl dL_law_974 rfl dL_law_975 rfl (by decide) dL_law_976 rfl dL_law_977 rfl ?_
  refine Z_Vi2 (nx := 981) dL_law_978 rfl ml_RL_120 kj_X7_whatIs kv_X7_whatIs (sp_X7_whatIs h1) (by first | assumption | rfl | decide | omega) (by first | assumption | rfl | decide | omega) (by decide) rfl (by decide) (by exact Nat.le_of_ble_eq_true rfl) (fun u1 D1 g1 => ?_)
  obtain ⟨h2, hx, hl, hg⟩ := L_ck h2 g1 hx hl
  refine X_aload_n (nx := 982) dL_law_981 rfl rfl rfl ?_
  refine L_arg (k := 1) hx hl hi hL (by decide) dL_law_982 rfl dL_law_983 rfl dL_law_984 rfl (by decide) dL_law_985 rfl dL_law_986 rfl ?_
  refine L_arg (k := 2) hx hl hi hL (by decide) dL_law_987 rfl dL_law_988 rfl dL_law_989 rfl (by decide) dL_law_990 rfl dL_law_991 rfl ?_
  refine Z_Vi2 (nx := 995) dL_law_992 rfl ml_RL_123 kj_X8_whatIs kv_X8_whatIs (sp_X8_whatIs h2 h1.wf) (by first | assumption | rfl | decide | omega) (by first | assumption | rfl | decide | omega) (by decide) rfl (by decide) (by exact Nat.le_of_ble_eq_true rfl) (fun u2 D2 g2 => ?_)
  obtain ⟨he, k1, k2, k3, k4⟩ := hg g2
  exact X_icmp_eq (tgt := 1151) (nx := 998) dL_law_995 rfl rfl (fun _ => K _ _ k1 k2 k3 k4) (fun q => absurd he q)
theorem law_c26 {xs : Nat → Int32} {i L : Nat} {D : Mem} {S : St} (h1 : INV1 D S) (h2 : INV2 D S) (hx : D 2003 = xs) (hl : D 2004 0 = nI L) (hi : i + 6 ≤ L) (hL : L ≤ 3072) (K : ∀ D' S', INV1 D' S' → INV2 D' S' → D' 2003 = xs → D' 2004 0 = nI L → X 23 138 j_L_law 1151 (LSL i) [] (138, P0, D') QL) : X 23 138 j_L_law 1000 (LSL i) [] (138, P0, D) QL := by
  refine X_aload_n (nx := 1001) dL_law_1000 rfl rfl rfl ?_
  refine L_arg (k := 1) hx hl hi hL (by decide) dL_law_1001 rfl dL_law_1002 rfl dL_law_1003 rfl (by decide) dL_law_1004 rfl dL_law_1005 rfl ?_
  refine Z_Vi1 (nx := 1009) dL_law_1006 rfl ml_RL_124 kj_X7_row kv_X7_row (sp_X7_row h1) (by first | assumption | rfl | decide | omega) (by first | assumption | rfl | decide | omega) (by decide) rfl (by decide) (by exact Nat.le_of_ble_eq_true rfl) (fun u1 D1 g1 => ?_)
  obtain ⟨h2, hx, hl, hg⟩ := L_ck h2 g1 hx hl
  refine X_aload_n (nx := 1010) dL_law_1009 rfl rfl rfl ?_
  refine L_arg (k := 1) hx hl hi hL (by decide) dL_law_1010 rfl dL_law_1011 rfl dL_law_1012 rfl (by decide) dL_law_1013 rfl dL_law_1014 rfl ?_
  refine Z_Vi1 (nx := 1018) dL_law_1015 rfl ml_RL_127 kj_X8_row kv_X8_row (sp_X8_row h2 h1.wf) (by first | assumption | rfl | decide | omega) (by first | assumption | rfl | decide | omega) (by decide) rfl (by decide) (by exact Nat.le_of_ble_eq_true rfl) (fun u2 D2 g2 => ?_)
  obtain ⟨he, k1, k2, k3, k4⟩ := hg g2
  exact X_icmp_eq (tgt := 1151) (nx := 1021) dL_law_1018 rfl rfl (fun _ => K _ _ k1 k2 k3 k4) (fun q => absurd he q)
theorem law_c27 {xs : Nat → Int32} {i L : Nat} {D : Mem} {S : St} (h1 : INV1 D S) (h2 : INV2 D S) (hx : D 2003 = xs) (hl : D 2004 0 = nI L) (hi : i + 6 ≤ L) (hL : L ≤ 3072) (K : ∀ D' S', INV1 D' S' → INV2 D' S' → D' 2003 = xs → D' 2004 0 = nI L → X 23 138 j_L_law 1151 (LSL i) [] (138, P0, D') QL) : X 23 138 j_L_law 1023 (LSL i) [] (138, P0, D) QL := by
  refine X_aload_n (nx := 1024) dL_law_1023 rfl rfl rfl ?_
  refine L_arg (k := 1) hx hl hi hL (by decide) dL_law_1024 rfl dL_law_1025 rfl dL_law_1026 rfl (by decide) dL_law_1027 rfl dL_law_1028 rfl ?_
  refine Z_Vi1 (nx := 1032) dL_law_1029 rfl ml_RL_128 kj_X7_judge kv_X7_judge (sp_X7_judge h1) (by first | assumption | rfl | decide | omega) (by first | assumption | rfl | decide | omega) (by decide) rfl (by decide) (by exact Nat.le_of_ble_eq_true rfl) (fun u1 D1 g1 => ?_)
  obtain ⟨h2, hx, hl, hg⟩ := L_ck h2 g1 hx hl
  refine X_aload_n (nx := 1033) dL_law_1032 rfl rfl rfl ?_
  refine L_arg (k := 1) hx hl hi hL (by decide) dL_law_1033 rfl dL_law_1034 rfl dL_law_1035 rfl (by decide) dL_law_1036 rfl dL_law_1037 rfl ?_
  refine Z_Vi1 (nx := 1041) dL_law_1038 rfl ml_RL_131 kj_X8_judge kv_X8_judge (sp_X8_judge h2 h1.wf) (by first | assumption | rfl | decide | omega) (by first | assumption | rfl | decide | omega) (by decide) rfl (by decide) (by exact Nat.le_of_ble_eq_true rfl) (fun u2 D2 g2 => ?_)
  obtain ⟨he, k1, k2, k3, k4⟩ := hg g2
  exact X_icmp_eq (tgt := 1151) (nx := 1044) dL_law_1041 rfl rfl (fun _ => K _ _ k1 k2 k3 k4) (fun q => absurd he q)
theorem law_c28 {xs : Nat → Int32} {i L : Nat} {D : Mem} {S : St} (h1 : INV1 D S) (h2 : INV2 D S) (hx : D 2003 = xs) (hl : D 2004 0 = nI L) (hi : i + 6 ≤ L) (hL : L ≤ 3072) (K : ∀ D' S', INV1 D' S' → INV2 D' S' → D' 2003 = xs → D' 2004 0 = nI L → X 23 138 j_L_law 1151 (LSL i) [] (138, P0, D') QL) : X 23 138 j_L_law 1046 (LSL i) [] (138, P0, D) QL := by
  refine X_aload_n (nx := 1047) dL_law_1046 rfl rfl rfl ?_
  refine Z_Vi0 (nx := 1050) dL_law_1047 rfl ml_RL_132 kj_X7_clear kv_X7_clear (sp_X7_clear h1) (by first | assumption | rfl | decide | omega) (by first | assumption | rfl | decide | omega) (by decide) rfl (by decide) (by exact Nat.le_of_ble_eq_true rfl) (fun u1 D1 g1 => ?_)
  obtain ⟨h2, hx, hl, hg⟩ := L_ck h2 g1 hx hl
  refine X_aload_n (nx := 1051) dL_law_1050 rfl rfl rfl ?_
  refine Z_Vi0 (nx := 1054) dL_law_1051 rfl ml_RL_135 kj_X8_clear kv_X8_clear (sp_X8_clear h2 h1.wf) (by first | assumption | rfl | decide | omega) (by first | assumption | rfl | decide | omega) (by decide) rfl (by decide) (by exact Nat.le_of_ble_eq_true rfl) (fun u2 D2 g2 => ?_)
  obtain ⟨he, k1, k2, k3, k4⟩ := hg g2
  exact X_icmp_eq (tgt := 1151) (nx := 1057) dL_law_1054 rfl rfl (fun _ => K _ _ k1 k2 k3 k4) (fun q => absurd he q)
theorem law_c29 {xs : Nat → Int32} {i L : Nat} {D : Mem} {S : St} (h1 : INV1 D S) (h2 : INV2 D S) (hx : D 2003 = xs) (hl : D 2004 0 = nI L) (hi : i + 6 ≤ L) (hL : L ≤ 3072) (K : ∀ D' S', INV1 D' S' → INV2 D' S' → D' 2003 = xs → D' 2004 0 = nI L → X 23 138 j_L_law 1151 (LSL i) [] (138, P0, D') QL) : X 23 138 j_L_law 1059 (LSL i) [] (138, P0, D) QL := by
  refine X_aload_n (nx := 1060) dL_law_1059 rfl rfl rfl ?_
  refine L_arg (k := 1) hx hl hi hL (by decide) dL_law_1060 rfl dL_law_1061 rfl dL_law_1062 rfl (by decide) dL_law_1063 rfl dL_law_1064 rfl ?_
  refine L_arg (k := 2) hx hl hi hL (by decide) dL_law_1065 rfl dL_law_1066 rfl dL_law_1067 rfl (by decide) dL_law_1068 rfl dL_law_1069 rfl ?_
  refine L_arg (k := 3) hx hl hi hL (by decide) dL_law_1070 rfl dL_law_1071 rfl dL_law_1072 rfl (by decide) dL_law_1073 rfl dL_law_1074 rfl ?_
  refine Z_Vi3 (nx := 1078) dL_law_1075 rfl ml_RL_136 kj_X7_lots kv_X7_lots (sp_X7_lots h1) (by first | assumption | rfl | decide | omega) (by first | assumption | rfl | decide | omega) (by decide) rfl (by decide) (by exact Nat.le_of_ble_eq_true rfl) (fun u1 D1 g1 => ?_)
  obtain ⟨h2, hx, hl, hg⟩ := L_ck h2 g1 hx hl
  refine X_aload_n (nx := 1079) dL_law_1078 rfl rfl rfl ?_
  refine L_arg (k := 1) hx hl hi hL (by decide) dL_law_1079 rfl dL_law_1080 rfl dL_law_1081 rfl (by decide) dL_law_1082 rfl dL_law_1083 rfl ?_
  refine L_arg (k := 2) hx hl hi hL (by decide) dL_law_1084 rfl dL_law_1085 rfl dL_law_1086 rfl (by decide) dL_law_1087 rfl dL_law_1088 rfl ?_
  refine L_arg (k := 3) hx hl hi hL (by decide) dL_law_1089 rfl dL_law_1090 rfl dL_law_1091 rfl (by decide) dL_law_1092 rfl dL_law_1093 rfl ?_
  refine Z_Vi3 (nx := 1097) dL_law_1094 rfl ml_RL_139 kj_X8_lots kv_X8_lots (sp_X8_lots h2 h1.wf) (by first | assumption | rfl | decide | omega) (by first | assumption | rfl | decide | omega) (by decide) rfl (by decide) (by exact Nat.le_of_ble_eq_true rfl) (fun u2 D2 g2 => ?_)
  obtain ⟨he, k1, k2, k3, k4⟩ := hg g2
  exact X_icmp_eq (tgt := 1151) (nx := 1100) dL_law_1097 rfl rfl (fun _ => K _ _ k1 k2 k3 k4) (fun q => absurd he q)
theorem law_c30 {xs : Nat → Int32} {i L : Nat} {D : Mem} {S : St} (h1 : INV1 D S) (h2 : INV2 D S) (hx : D 2003 = xs) (hl : D 2004 0 = nI L) (hi : i + 6 ≤ L) (hL : L ≤ 3072) (K : ∀ D' S', INV1 D' S' → INV2 D' S' → D' 2003 = xs → D' 2004 0 = nI L → X 23 138 j_L_law 1151 (LSL i) [] (138, P0, D') QL) : X 23 138 j_L_law 1102 (LSL i) [] (138, P0, D) QL := by
  refine X_aload_n (nx := 1103) dL_law_1102 rfl rfl rfl ?_
  refine Z_Vi0 (nx := 1106) dL_law_1103 rfl ml_RL_140 kj_X7_image kv_X7_image (sp_X7_image h1) (by first | assumption | rfl | decide | omega) (by first | assumption | rfl | decide | omega) (by decide) rfl (by decide) (by exact Nat.le_of_ble_eq_true rfl) (fun u1 D1 g1 => ?_)
  obtain ⟨h2, hx, hl, hg⟩ := L_ck h2 g1 hx hl
  refine X_aload_n (nx := 1107) dL_law_1106 rfl rfl rfl ?_
  refine Z_Vi0 (nx := 1110) dL_law_1107 rfl ml_RL_143 kj_X8_image kv_X8_image (sp_X8_image h2 h1.wf) (by first | assumption | rfl | decide | omega) (by first | assumption | rfl | decide | omega) (by decide) rfl (by decide) (by exact Nat.le_of_ble_eq_true rfl) (fun u2 D2 g2 => ?_)
  obtain ⟨he, k1, k2, k3, k4⟩ := hg g2
  exact X_icmp_eq (tgt := 1151) (nx := 1113) dL_law_1110 rfl rfl (fun _ => K _ _ k1 k2 k3 k4) (fun q => absurd he q)
theorem law_c31 {xs : Nat → Int32} {i L : Nat} {D : Mem} {S : St} (h1 : INV1 D S) (h2 : INV2 D S) (hx : D 2003 = xs) (hl : D 2004 0 = nI L) (hi : i + 6 ≤ L) (hL : L ≤ 3072) (K : ∀ D' S', INV1 D' S' → INV2 D' S' → D' 2003 = xs → D' 2004 0 = nI L → X 23 138 j_L_law 1151 (LSL i) [] (138, P0, D') QL) : X 23 138 j_L_law 1115 (LSL i) [] (138, P0, D) QL := by
  refine X_aload_n (nx := 1116) dL_law_1115 rfl rfl rfl ?_
  refine Z_Vi0 (nx := 1119) dL_law_1116 rfl ml_RL_144 kj_X7_on kv_X7_on (sp_X7_on h1) (by first | assumption | rfl | decide | omega) (by first | assumption | rfl | decide | omega) (by decide) rfl (by decide) (by exact Nat.le_of_ble_eq_true rfl) (fun u1 D1 g1 => ?_)
  obtain ⟨h2, hx, hl, hg⟩ := L_ck h2 g1 hx hl
  refine X_aload_n (nx := 1120) dL_law_1119 rfl rfl rfl ?_
  refine Z_Vi0 (nx := 1123) dL_law_1120 rfl ml_RL_147 kj_X8_on kv_X8_on (sp_X8_on h2 h1.wf) (by first | assumption | rfl | decide | omega) (by first | assumption | rfl | decide | omega) (by decide) rfl (by decide) (by exact Nat.le_of_ble_eq_true rfl) (fun u2 D2 g2 => ?_)
  obtain ⟨he, k1, k2, k3, k4⟩ := hg g2
  exact X_icmp_eq (tgt := 1151) (nx := 1126) dL_law_1123 rfl rfl (fun _ => K _ _ k1 k2 k3 k4) (fun q => absurd he q)
theorem law_c32 {xs : Nat → Int32} {i L : Nat} {D : Mem} {S : St} (h1 : INV1 D S) (h2 : INV2 D S) (hx : D 2003 = xs) (hl : D 2004 0 = nI L) (hi : i + 6 ≤ L) (hL : L ≤ 3072) (K : ∀ D' S', INV1 D' S' → INV2 D' S' → D' 2003 = xs → D' 2004 0 = nI L → X 23 138 j_L_law 1151 (LSL i) [] (138, P0, D') QL) : X 23 138 j_L_law 1128 (LSL i) [] (138, P0, D) QL := by
  refine X_aload_n (nx := 1129) dL_law_1128 rfl rfl rfl ?_
  refine L_arg (k := 1) hx hl hi hL (by decide) dL_law_1129 rfl dL_law_1130 rfl dL_law_1131 rfl (by decide) dL_law_1132 rfl dL_law_1133 rfl ?_
  refine Z_Vi1 (nx := 1137) dL_law_1134 rfl ml_RL_148 kj_X7_count kv_X7_count (sp_X7_count h1) (by first | assumption | rfl | decide | omega) (by first | assumption | rfl | decide | omega) (by decide) rfl (by decide) (by exact Nat.le_of_ble_eq_true rfl) (fun u1 D1 g1 => ?_)
  obtain ⟨h2, hx, hl, hg⟩ := L_ck h2 g1 hx hl
  refine X_aload_n (nx := 1138) dL_law_1137 rfl rfl rfl ?_
  refine L_arg (k := 1) hx hl hi hL (by decide) dL_law_1138 rfl dL_law_1139 rfl dL_law_1140 rfl (by decide) dL_law_1141 rfl dL_law_1142 rfl ?_
  refine Z_Vi1 (nx := 1146) dL_law_1143 rfl ml_RL_151 kj_X8_count kv_X8_count (sp_X8_count h2 h1.wf) (by first | assumption | rfl | decide | omega) (by first | assumption | rfl | decide | omega) (by decide) rfl (by decide) (by exact Nat.le_of_ble_eq_true rfl) (fun u2 D2 g2 => ?_)
  obtain ⟨he, k1, k2, k3, k4⟩ := hg g2
  exact X_icmp_eq (tgt := 1151) (nx := 1149) dL_law_1146 rfl rfl (fun _ => K _ _ k1 k2 k3 k4) (fun q => absurd he q)
