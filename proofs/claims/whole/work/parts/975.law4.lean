/-! LAW: sort, sorted, runs, inversions -/
theorem dc_L_law_753 : decode code 753 = .ok (.aload_n 1, 1) := by decide +kernel
theorem dc_L_law_754 : decode code 754 = .ok (.aload_n 0, 1) := by decide +kernel
theorem dc_L_law_755 : decode code 755 = .ok (.iload 4, 2) := by decide +kernel
theorem dc_L_law_757 : decode code 757 = .ok (.iconst 1, 1) := by decide +kernel
theorem dc_L_law_758 : decode code 758 = .ok (.iadd, 1) := by decide +kernel
theorem dc_L_law_759 : decode code 759 = .ok (.iaload, 1) := by decide +kernel
theorem dc_L_law_760 : decode code 760 = .ok (.aload_n 0, 1) := by decide +kernel
theorem dc_L_law_761 : decode code 761 = .ok (.iload 4, 2) := by decide +kernel
theorem dc_L_law_763 : decode code 763 = .ok (.iconst 2, 1) := by decide +kernel
theorem dc_L_law_764 : decode code 764 = .ok (.iadd, 1) := by decide +kernel
theorem dc_L_law_765 : decode code 765 = .ok (.iaload, 1) := by decide +kernel
theorem dc_L_law_766 : decode code 766 = .ok (.aload_n 0, 1) := by decide +kernel
theorem dc_L_law_767 : decode code 767 = .ok (.iload 4, 2) := by decide +kernel
theorem dc_L_law_769 : decode code 769 = .ok (.iconst 3, 1) := by decide +kernel
theorem dc_L_law_770 : decode code 770 = .ok (.iadd, 1) := by decide +kernel
theorem dc_L_law_771 : decode code 771 = .ok (.iaload, 1) := by decide +kernel
theorem dc_L_law_772 : decode code 772 = .ok (.invokestatic 134, 3) := by decide +kernel
theorem dc_L_law_775 : decode code 775 = .ok (.istore 5, 2) := by decide +kernel
theorem dc_L_law_777 : decode code 777 = .ok (.aload_n 2, 1) := by decide +kernel
theorem dc_L_law_778 : decode code 778 = .ok (.aload_n 0, 1) := by decide +kernel
theorem dc_L_law_779 : decode code 779 = .ok (.iload 4, 2) := by decide +kernel
theorem dc_L_law_781 : decode code 781 = .ok (.iconst 1, 1) := by decide +kernel
theorem dc_L_law_782 : decode code 782 = .ok (.iadd, 1) := by decide +kernel
theorem dc_L_law_783 : decode code 783 = .ok (.iaload, 1) := by decide +kernel
theorem dc_L_law_784 : decode code 784 = .ok (.aload_n 0, 1) := by decide +kernel
theorem dc_L_law_785 : decode code 785 = .ok (.iload 4, 2) := by decide +kernel
theorem dc_L_law_787 : decode code 787 = .ok (.iconst 2, 1) := by decide +kernel
theorem dc_L_law_788 : decode code 788 = .ok (.iadd, 1) := by decide +kernel
theorem dc_L_law_789 : decode code 789 = .ok (.iaload, 1) := by decide +kernel
theorem dc_L_law_790 : decode code 790 = .ok (.aload_n 0, 1) := by decide +kernel
theorem dc_L_law_791 : decode code 791 = .ok (.iload 4, 2) := by decide +kernel
theorem dc_L_law_793 : decode code 793 = .ok (.iconst 3, 1) := by decide +kernel
theorem dc_L_law_794 : decode code 794 = .ok (.iadd, 1) := by decide +kernel
theorem dc_L_law_795 : decode code 795 = .ok (.iaload, 1) := by decide +kernel
theorem dc_L_law_796 : decode code 796 = .ok (.invokevirtual 136, 3) := by decide +kernel
theorem dc_L_law_799 : decode code 799 = .ok (.aload_n 2, 1) := by decide +kernel
theorem dc_L_law_800 : decode code 800 = .ok (.invokevirtual 100, 3) := by decide +kernel
theorem dc_L_law_803 : decode code 803 = .ok (.iload 5, 2) := by decide +kernel
theorem dc_L_law_805 : decode code 805 = .ok (.if_icmp .eq 5, 3) := by decide +kernel
theorem dc_L_law_808 : decode code 808 = .ok (.iconst 0, 1) := by decide +kernel
theorem dc_L_law_809 : decode code 809 = .ok (.ireturn, 1) := by decide +kernel
theorem dc_L_law_810 : decode code 810 = .ok (.goto 790, 3) := by decide +kernel
theorem dc_L_law_826 : decode code 826 = .ok (.aload_n 1, 1) := by decide +kernel
theorem dc_L_law_827 : decode code 827 = .ok (.aload_n 0, 1) := by decide +kernel
theorem dc_L_law_828 : decode code 828 = .ok (.iload 4, 2) := by decide +kernel
theorem dc_L_law_830 : decode code 830 = .ok (.iconst 1, 1) := by decide +kernel
theorem dc_L_law_831 : decode code 831 = .ok (.iadd, 1) := by decide +kernel
theorem dc_L_law_832 : decode code 832 = .ok (.iaload, 1) := by decide +kernel
theorem dc_L_law_833 : decode code 833 = .ok (.aload_n 0, 1) := by decide +kernel
theorem dc_L_law_834 : decode code 834 = .ok (.iload 4, 2) := by decide +kernel
theorem dc_L_law_836 : decode code 836 = .ok (.iconst 2, 1) := by decide +kernel
theorem dc_L_law_837 : decode code 837 = .ok (.iadd, 1) := by decide +kernel
theorem dc_L_law_838 : decode code 838 = .ok (.iaload, 1) := by decide +kernel
theorem dc_L_law_839 : decode code 839 = .ok (.aload_n 3, 1) := by decide +kernel
theorem dc_L_law_840 : decode code 840 = .ok (.invokestatic 142, 3) := by decide +kernel
theorem dc_L_law_843 : decode code 843 = .ok (.istore 5, 2) := by decide +kernel
theorem dc_L_law_845 : decode code 845 = .ok (.aload_n 2, 1) := by decide +kernel
theorem dc_L_law_846 : decode code 846 = .ok (.aload_n 0, 1) := by decide +kernel
theorem dc_L_law_847 : decode code 847 = .ok (.iload 4, 2) := by decide +kernel
theorem dc_L_law_849 : decode code 849 = .ok (.iconst 1, 1) := by decide +kernel
theorem dc_L_law_850 : decode code 850 = .ok (.iadd, 1) := by decide +kernel
theorem dc_L_law_851 : decode code 851 = .ok (.iaload, 1) := by decide +kernel
theorem dc_L_law_852 : decode code 852 = .ok (.aload_n 0, 1) := by decide +kernel
theorem dc_L_law_853 : decode code 853 = .ok (.iload 4, 2) := by decide +kernel
theorem dc_L_law_855 : decode code 855 = .ok (.iconst 2, 1) := by decide +kernel
theorem dc_L_law_856 : decode code 856 = .ok (.iadd, 1) := by decide +kernel
theorem dc_L_law_857 : decode code 857 = .ok (.iaload, 1) := by decide +kernel
theorem dc_L_law_858 : decode code 858 = .ok (.invokevirtual 144, 3) := by decide +kernel
theorem dc_L_law_861 : decode code 861 = .ok (.istore 6, 2) := by decide +kernel
theorem dc_L_law_863 : decode code 863 = .ok (.aload_n 2, 1) := by decide +kernel
theorem dc_L_law_864 : decode code 864 = .ok (.invokevirtual 100, 3) := by decide +kernel
theorem dc_L_law_867 : decode code 867 = .ok (.iload 5, 2) := by decide +kernel
theorem dc_L_law_869 : decode code 869 = .ok (.if_icmp .eq 5, 3) := by decide +kernel
theorem dc_L_law_872 : decode code 872 = .ok (.iconst 0, 1) := by decide +kernel
theorem dc_L_law_873 : decode code 873 = .ok (.ireturn, 1) := by decide +kernel
theorem dc_L_law_874 : decode code 874 = .ok (.iload 5, 2) := by decide +kernel
theorem dc_L_law_876 : decode code 876 = .ok (.ifCond .ne 22, 3) := by decide +kernel
theorem dc_L_law_879 : decode code 879 = .ok (.aload_n 3, 1) := by decide +kernel
theorem dc_L_law_880 : decode code 880 = .ok (.iconst 0, 1) := by decide +kernel
theorem dc_L_law_881 : decode code 881 = .ok (.laload, 1) := by decide +kernel
theorem dc_L_law_882 : decode code 882 = .ok (.iload 6, 2) := by decide +kernel
theorem dc_L_law_884 : decode code 884 = .ok (.ifCond .eq 7, 3) := by decide +kernel
theorem dc_L_law_887 : decode code 887 = .ok (.lconst 1, 1) := by decide +kernel
theorem dc_L_law_888 : decode code 888 = .ok (.goto 4, 3) := by decide +kernel
theorem dc_L_law_891 : decode code 891 = .ok (.lconst 0, 1) := by decide +kernel
theorem dc_L_law_892 : decode code 892 = .ok (.lcmp, 1) := by decide +kernel
theorem dc_L_law_893 : decode code 893 = .ok (.ifCond .eq 5, 3) := by decide +kernel
theorem dc_L_law_896 : decode code 896 = .ok (.iconst 0, 1) := by decide +kernel
theorem dc_L_law_897 : decode code 897 = .ok (.ireturn, 1) := by decide +kernel
theorem dc_L_law_898 : decode code 898 = .ok (.goto 702, 3) := by decide +kernel
theorem dc_L_law_901 : decode code 901 = .ok (.aload_n 1, 1) := by decide +kernel
theorem dc_L_law_902 : decode code 902 = .ok (.aload_n 0, 1) := by decide +kernel
theorem dc_L_law_903 : decode code 903 = .ok (.iload 4, 2) := by decide +kernel
theorem dc_L_law_905 : decode code 905 = .ok (.iconst 1, 1) := by decide +kernel
theorem dc_L_law_906 : decode code 906 = .ok (.iadd, 1) := by decide +kernel
theorem dc_L_law_907 : decode code 907 = .ok (.iaload, 1) := by decide +kernel
theorem dc_L_law_908 : decode code 908 = .ok (.aload_n 0, 1) := by decide +kernel
theorem dc_L_law_909 : decode code 909 = .ok (.iload 4, 2) := by decide +kernel
theorem dc_L_law_911 : decode code 911 = .ok (.iconst 2, 1) := by decide +kernel
theorem dc_L_law_912 : decode code 912 = .ok (.iadd, 1) := by decide +kernel
theorem dc_L_law_913 : decode code 913 = .ok (.iaload, 1) := by decide +kernel
theorem dc_L_law_914 : decode code 914 = .ok (.aload_n 3, 1) := by decide +kernel
theorem dc_L_law_915 : decode code 915 = .ok (.invokestatic 145, 3) := by decide +kernel
theorem dc_L_law_918 : decode code 918 = .ok (.istore 5, 2) := by decide +kernel
theorem dc_L_law_920 : decode code 920 = .ok (.aload_n 2, 1) := by decide +kernel
theorem dc_L_law_921 : decode code 921 = .ok (.aload_n 0, 1) := by decide +kernel
theorem dc_L_law_922 : decode code 922 = .ok (.iload 4, 2) := by decide +kernel
theorem dc_L_law_924 : decode code 924 = .ok (.iconst 1, 1) := by decide +kernel
theorem dc_L_law_925 : decode code 925 = .ok (.iadd, 1) := by decide +kernel
theorem dc_L_law_926 : decode code 926 = .ok (.iaload, 1) := by decide +kernel
theorem dc_L_law_927 : decode code 927 = .ok (.aload_n 0, 1) := by decide +kernel
theorem dc_L_law_928 : decode code 928 = .ok (.iload 4, 2) := by decide +kernel
theorem dc_L_law_930 : decode code 930 = .ok (.iconst 2, 1) := by decide +kernel
theorem dc_L_law_931 : decode code 931 = .ok (.iadd, 1) := by decide +kernel
theorem dc_L_law_932 : decode code 932 = .ok (.iaload, 1) := by decide +kernel
theorem dc_L_law_933 : decode code 933 = .ok (.invokevirtual 147, 3) := by decide +kernel
theorem dc_L_law_936 : decode code 936 = .ok (.istore 6, 2) := by decide +kernel
theorem dc_L_law_938 : decode code 938 = .ok (.aload_n 2, 1) := by decide +kernel
theorem dc_L_law_939 : decode code 939 = .ok (.invokevirtual 100, 3) := by decide +kernel
theorem dc_L_law_942 : decode code 942 = .ok (.iload 5, 2) := by decide +kernel
theorem dc_L_law_944 : decode code 944 = .ok (.if_icmp .eq 5, 3) := by decide +kernel
theorem dc_L_law_947 : decode code 947 = .ok (.iconst 0, 1) := by decide +kernel
theorem dc_L_law_948 : decode code 948 = .ok (.ireturn, 1) := by decide +kernel
theorem dc_L_law_949 : decode code 949 = .ok (.iload 5, 2) := by decide +kernel
theorem dc_L_law_951 : decode code 951 = .ok (.ifCond .ne 15, 3) := by decide +kernel
theorem dc_L_law_954 : decode code 954 = .ok (.aload_n 3, 1) := by decide +kernel
theorem dc_L_law_955 : decode code 955 = .ok (.iconst 0, 1) := by decide +kernel
theorem dc_L_law_956 : decode code 956 = .ok (.laload, 1) := by decide +kernel
theorem dc_L_law_957 : decode code 957 = .ok (.iload 6, 2) := by decide +kernel
theorem dc_L_law_959 : decode code 959 = .ok (.i2l, 1) := by decide +kernel
theorem dc_L_law_960 : decode code 960 = .ok (.lcmp, 1) := by decide +kernel
theorem dc_L_law_961 : decode code 961 = .ok (.ifCond .eq 5, 3) := by decide +kernel
theorem dc_L_law_964 : decode code 964 = .ok (.iconst 0, 1) := by decide +kernel
theorem dc_L_law_965 : decode code 965 = .ok (.ireturn, 1) := by decide +kernel
theorem dc_L_law_966 : decode code 966 = .ok (.goto 634, 3) := by decide +kernel
theorem dc_L_law_969 : decode code 969 = .ok (.aload_n 1, 1) := by decide +kernel
theorem dc_L_law_970 : decode code 970 = .ok (.aload_n 0, 1) := by decide +kernel
theorem dc_L_law_971 : decode code 971 = .ok (.iload 4, 2) := by decide +kernel
theorem dc_L_law_973 : decode code 973 = .ok (.iconst 1, 1) := by decide +kernel
theorem dc_L_law_974 : decode code 974 = .ok (.iadd, 1) := by decide +kernel
theorem dc_L_law_975 : decode code 975 = .ok (.iaload, 1) := by decide +kernel
theorem dc_L_law_976 : decode code 976 = .ok (.aload_n 0, 1) := by decide +kernel
theorem dc_L_law_977 : decode code 977 = .ok (.iload 4, 2) := by decide +kernel
theorem dc_L_law_979 : decode code 979 = .ok (.iconst 2, 1) := by decide +kernel
theorem dc_L_law_980 : decode code 980 = .ok (.iadd, 1) := by decide +kernel
theorem dc_L_law_981 : decode code 981 = .ok (.iaload, 1) := by decide +kernel
theorem dc_L_law_982 : decode code 982 = .ok (.aload_n 3, 1) := by decide +kernel
theorem dc_L_law_983 : decode code 983 = .ok (.invokestatic 148, 3) := by decide +kernel
theorem dc_L_law_986 : decode code 986 = .ok (.istore 5, 2) := by decide +kernel
theorem dc_L_law_988 : decode code 988 = .ok (.aload_n 2, 1) := by decide +kernel
theorem dc_L_law_989 : decode code 989 = .ok (.aload_n 0, 1) := by decide +kernel
theorem dc_L_law_990 : decode code 990 = .ok (.iload 4, 2) := by decide +kernel
theorem dc_L_law_992 : decode code 992 = .ok (.iconst 1, 1) := by decide +kernel
theorem dc_L_law_993 : decode code 993 = .ok (.iadd, 1) := by decide +kernel
theorem dc_L_law_994 : decode code 994 = .ok (.iaload, 1) := by decide +kernel
theorem dc_L_law_995 : decode code 995 = .ok (.aload_n 0, 1) := by decide +kernel
theorem dc_L_law_996 : decode code 996 = .ok (.iload 4, 2) := by decide +kernel
theorem dc_L_law_998 : decode code 998 = .ok (.iconst 2, 1) := by decide +kernel
theorem dc_L_law_999 : decode code 999 = .ok (.iadd, 1) := by decide +kernel
theorem dc_L_law_1000 : decode code 1000 = .ok (.iaload, 1) := by decide +kernel
theorem dc_L_law_1001 : decode code 1001 = .ok (.invokevirtual 150, 3) := by decide +kernel
theorem dc_L_law_1004 : decode code 1004 = .ok (.istore 6, 2) := by decide +kernel
theorem dc_L_law_1006 : decode code 1006 = .ok (.aload_n 2, 1) := by decide +kernel
theorem dc_L_law_1007 : decode code 1007 = .ok (.invokevirtual 100, 3) := by decide +kernel
theorem dc_L_law_1010 : decode code 1010 = .ok (.iload 5, 2) := by decide +kernel
theorem dc_L_law_1012 : decode code 1012 = .ok (.if_icmp .eq 5, 3) := by decide +kernel
theorem dc_L_law_1015 : decode code 1015 = .ok (.iconst 0, 1) := by decide +kernel
theorem dc_L_law_1016 : decode code 1016 = .ok (.ireturn, 1) := by decide +kernel
theorem dc_L_law_1017 : decode code 1017 = .ok (.iload 5, 2) := by decide +kernel
theorem dc_L_law_1019 : decode code 1019 = .ok (.ifCond .ne 15, 3) := by decide +kernel
theorem dc_L_law_1022 : decode code 1022 = .ok (.aload_n 3, 1) := by decide +kernel
theorem dc_L_law_1023 : decode code 1023 = .ok (.iconst 0, 1) := by decide +kernel
theorem dc_L_law_1024 : decode code 1024 = .ok (.laload, 1) := by decide +kernel
theorem dc_L_law_1025 : decode code 1025 = .ok (.iload 6, 2) := by decide +kernel
theorem dc_L_law_1027 : decode code 1027 = .ok (.i2l, 1) := by decide +kernel
theorem dc_L_law_1028 : decode code 1028 = .ok (.lcmp, 1) := by decide +kernel
theorem dc_L_law_1029 : decode code 1029 = .ok (.ifCond .eq 5, 3) := by decide +kernel
theorem dc_L_law_1032 : decode code 1032 = .ok (.iconst 0, 1) := by decide +kernel
theorem dc_L_law_1033 : decode code 1033 = .ok (.ireturn, 1) := by decide +kernel
theorem dc_L_law_1034 : decode code 1034 = .ok (.goto 566, 3) := by decide +kernel
set_option maxHeartbeats 4000000 in
set_option maxRecDepth 100000 in
theorem lh_sort {o : YO} {b L : Nat} {xs : Nat → Int32} (hLw : yLw o b L xs) (hR : yRm o 0 0) (i : Nat) (hi : i + 7 ≤ L) (S1 : YS) (c : Nat) (hc4 : c < 4) (lev : Nat) (hlev : lev ≤ 30) (H : yC o.l mn_M_sort mb_M_sort 5 none lev o.G [.ref (o.G.ad (24)), .int (xs (i + 1)), .int (xs (i + 2)), .int (xs (i + 3))] S1 (fun v S2 => dV v (gL S2 31 0) c ∧ gF S2 24 0 = nI c ∧ yInv S2)) (kk : ∀ S2 : YS, yInv S2 → yW o S2 1600 [(4, .int (nI (i))), (3, .ref (o.G.ad (31))), (2, .ref (o.G.ad (24))), (1, .ref (o.G.ad (0))), (0, .ref (b))] []) : yW o S1 775 [(4, .int (nI (i))), (3, .ref (o.G.ad (31))), (2, .ref (o.G.ad (24))), (1, .ref (o.G.ad (0))), (0, .ref (b))] [.int (nI c)] := by
  have hB := hLw.1
  have hm := hLw.2.1
  have hL := hLw.2.2.2.2.2.2.1
  refine y_istore (pc' := 777) (lv' := [(5, .int (nI (c))), (4, .int (nI (i))), (3, .ref (o.G.ad (31))), (2, .ref (o.G.ad (24))), (1, .ref (o.G.ad (0))), (0, .ref (b))]) hB hm dc_L_law_775 rfl (by decide) rfl ?_
  refine y_aload_n (pc' := 778) hB dc_L_law_777 rfl rfl 3 rfl ?_
  refine y_aload_n (pc' := 779) hB dc_L_law_778 rfl rfl 5 rfl ?_
  refine y_iload (pc' := 781) hB dc_L_law_779 rfl 1 rfl ?_
  refine y_iconst (v := nI 1) (pc' := 782) hB dc_L_law_781 rfl rfl ?_
  refine n_iadd (x := i) (y := 1) (pc' := 783) hB dc_L_law_782 rfl ?_
  refine y_sld (j := i + 1) (pc' := 784) hLw dc_L_law_783 rfl (by omega) ?_
  refine y_aload_n (pc' := 785) hB dc_L_law_784 rfl rfl 5 rfl ?_
  refine y_iload (pc' := 787) hB dc_L_law_785 rfl 1 rfl ?_
  refine y_iconst (v := nI 2) (pc' := 788) hB dc_L_law_787 rfl rfl ?_
  refine n_iadd (x := i) (y := 2) (pc' := 789) hB dc_L_law_788 rfl ?_
  refine y_sld (j := i + 2) (pc' := 790) hLw dc_L_law_789 rfl (by omega) ?_
  refine y_aload_n (pc' := 791) hB dc_L_law_790 rfl rfl 5 rfl ?_
  refine y_iload (pc' := 793) hB dc_L_law_791 rfl 1 rfl ?_
  refine y_iconst (v := nI 3) (pc' := 794) hB dc_L_law_793 rfl rfl ?_
  refine n_iadd (x := i) (y := 3) (pc' := 795) hB dc_L_law_794 rfl ?_
  refine y_sld (j := i + 3) (pc' := 796) hLw dc_L_law_795 rfl (by omega) ?_
  refine y_gV (c := 24) (ci := 4) (As := [.int (xs (i + 1)), .int (xs (i + 2)), .int (xs (i + 3))]) (rest := []) (pc' := 799) hB (hLw.2.2.1 _ _ (by omega) (by decide)) hR (H) mm_M_sort q_716 q_717 q_718 (by decide) rfl rfl dc_L_law_796 rfl rfl rfl (Nat.le_of_ble_eq_true rfl) (fun v S' hpost => ?_)
  obtain ⟨hd0, hcode, hI2⟩ := hpost
  obtain rfl : v = none := hd0
  show yW o (S') 799 [(5, .int (nI (c))), (4, .int (nI (i))), (3, .ref (o.G.ad (31))), (2, .ref (o.G.ad (24))), (1, .ref (o.G.ad (0))), (0, .ref (b))] []
  refine y_aload_n (pc' := 800) hB dc_L_law_799 rfl rfl 3 rfl ?_
  refine y_gV (c := 24) (ci := 4) (As := []) (rest := []) (pc' := 803) hB (hLw.2.2.1 _ _ (by decide) (by decide)) hR (ct_M_thrown o.l o.G S') mm_M_thrown q_664 q_665 q_666 (by decide) rfl rfl dc_L_law_800 rfl rfl rfl (Nat.le_of_ble_eq_true rfl) (fun v S' hpost => ?_)
  obtain ⟨rfl, hSS⟩ := hpost
  subst hSS
  show yW o (S') 803 [(5, .int (nI (c))), (4, .int (nI (i))), (3, .ref (o.G.ad (31))), (2, .ref (o.G.ad (24))), (1, .ref (o.G.ad (0))), (0, .ref (b))] [.int (gF S' 24 0)]
  refine y_topi (y := nI (c)) (hcode) ?_
  refine y_iload (pc' := 805) hB dc_L_law_803 rfl 0 rfl ?_
  refine n_icmp_eq (pc' := 808) (tg := 810) hB dc_L_law_805 rfl rfl (by omega) (by omega) (fun b2 => ?_) (fun b2 => ?_)
  · refine y_goto (tg := 1600) hB dc_L_law_810 rfl ?_
    refine y_sub [1, 2, 3, 4, 5] rfl ?_
    exact kk _ hI2
  · omega
set_option maxHeartbeats 4000000 in
set_option maxRecDepth 100000 in
theorem lg_sort {o : YO} {b L : Nat} {xs : Nat → Int32} (hLw : yLw o b L xs) (hR : yRm o 1 6) (i : Nat) (hi : i + 7 ≤ L) (S : YS) (hI : yInv S) (kk : ∀ S2 : YS, yInv S2 → yW (yat o (o.cells + 1) (o.slots + 6)) S2 1600 [(4, .int (nI (i))), (3, .ref (o.G.ad (31))), (2, .ref (o.G.ad (24))), (1, .ref (o.G.ad (0))), (0, .ref (b))] []) : yW o S 753 [(4, .int (nI (i))), (3, .ref (o.G.ad (31))), (2, .ref (o.G.ad (24))), (1, .ref (o.G.ad (0))), (0, .ref (b))] [] := by
  have hB := hLw.1
  have hm := hLw.2.1
  have hL := hLw.2.2.2.2.2.2.1
  refine y_aload_n (pc' := 754) hB dc_L_law_753 rfl rfl 3 rfl ?_
  refine y_aload_n (pc' := 755) hB dc_L_law_754 rfl rfl 4 rfl ?_
  refine y_iload (pc' := 757) hB dc_L_law_755 rfl 0 rfl ?_
  refine y_iconst (v := nI 1) (pc' := 758) hB dc_L_law_757 rfl rfl ?_
  refine n_iadd (x := i) (y := 1) (pc' := 759) hB dc_L_law_758 rfl ?_
  refine y_sld (j := i + 1) (pc' := 760) hLw dc_L_law_759 rfl (by omega) ?_
  refine y_aload_n (pc' := 761) hB dc_L_law_760 rfl rfl 4 rfl ?_
  refine y_iload (pc' := 763) hB dc_L_law_761 rfl 0 rfl ?_
  refine y_iconst (v := nI 2) (pc' := 764) hB dc_L_law_763 rfl rfl ?_
  refine n_iadd (x := i) (y := 2) (pc' := 765) hB dc_L_law_764 rfl ?_
  refine y_sld (j := i + 2) (pc' := 766) hLw dc_L_law_765 rfl (by omega) ?_
  refine y_aload_n (pc' := 767) hB dc_L_law_766 rfl rfl 4 rfl ?_
  refine y_iload (pc' := 769) hB dc_L_law_767 rfl 0 rfl ?_
  refine y_iconst (v := nI 3) (pc' := 770) hB dc_L_law_769 rfl rfl ?_
  refine n_iadd (x := i) (y := 3) (pc' := 771) hB dc_L_law_770 rfl ?_
  refine y_sld (j := i + 3) (pc' := 772) hLw dc_L_law_771 rfl (by omega) ?_
  obtain ⟨c, P, hc4, hH, hM⟩ := duo_sort o.l hLw.2.2.2.2.2.2.2 o.G S hI (xs (i + 1)) (xs (i + 2)) (xs (i + 3))
  refine y_hS (k := 4) (As := [.ref (o.G.ad (0)), .int (xs (i + 1)), .int (xs (i + 2)), .int (xs (i + 3))]) (rest := []) (pc' := 775) hB (hLw.2.2.1 _ _ (by omega) (by decide)) hR hH q_344 q_0 ⟨by decide, by decide⟩ (by decide +kernel) q_342 q_343 dc_L_law_772 rfl rfl rfl (Nat.le_of_ble_eq_true rfl) (fun v S1 hpost => ?_)
  obtain ⟨rfl, hP⟩ := hpost
  obtain ⟨lev, hlev, hC⟩ := hM S1 hP
  exact lh_sort (o := (yat o (o.cells + 1) (o.slots + 6))) hLw ⟨hR.1, hR.2⟩ i hi S1 c hc4 lev hlev hC kk
set_option maxHeartbeats 4000000 in
set_option maxRecDepth 100000 in
theorem lh_sorted {o : YO} {b L : Nat} {xs : Nat → Int32} (hLw : yLw o b L xs) (hR : yRm o 0 0) (i : Nat) (hi : i + 7 ≤ L) (S1 : YS) (c : Nat) (hc4 : c < 4) (lev : Nat) (hlev : lev ≤ 30) (H : yC o.l mn_M_sorted mb_M_sorted 3 (some .boolean) lev o.G [.ref (o.G.ad (24)), .int (xs (i + 1)), .int (xs (i + 2))] S1 (fun v S2 => dZ v (gL S2 31 0) c ∧ gF S2 24 0 = nI c ∧ yInv S2)) (kk : ∀ S2 : YS, yInv S2 → yW o S2 1600 [(4, .int (nI (i))), (3, .ref (o.G.ad (31))), (2, .ref (o.G.ad (24))), (1, .ref (o.G.ad (0))), (0, .ref (b))] []) : yW o S1 843 [(4, .int (nI (i))), (3, .ref (o.G.ad (31))), (2, .ref (o.G.ad (24))), (1, .ref (o.G.ad (0))), (0, .ref (b))] [.int (nI c)] := by
  have hB := hLw.1
  have hm := hLw.2.1
  have hL := hLw.2.2.2.2.2.2.1
  refine y_istore (pc' := 845) (lv' := [(5, .int (nI (c))), (4, .int (nI (i))), (3, .ref (o.G.ad (31))), (2, .ref (o.G.ad (24))), (1, .ref (o.G.ad (0))), (0, .ref (b))]) hB hm dc_L_law_843 rfl (by decide) rfl ?_
  refine y_aload_n (pc' := 846) hB dc_L_law_845 rfl rfl 3 rfl ?_
  refine y_aload_n (pc' := 847) hB dc_L_law_846 rfl rfl 5 rfl ?_
  refine y_iload (pc' := 849) hB dc_L_law_847 rfl 1 rfl ?_
  refine y_iconst (v := nI 1) (pc' := 850) hB dc_L_law_849 rfl rfl ?_
  refine n_iadd (x := i) (y := 1) (pc' := 851) hB dc_L_law_850 rfl ?_
  refine y_sld (j := i + 1) (pc' := 852) hLw dc_L_law_851 rfl (by omega) ?_
  refine y_aload_n (pc' := 853) hB dc_L_law_852 rfl rfl 5 rfl ?_
  refine y_iload (pc' := 855) hB dc_L_law_853 rfl 1 rfl ?_
  refine y_iconst (v := nI 2) (pc' := 856) hB dc_L_law_855 rfl rfl ?_
  refine n_iadd (x := i) (y := 2) (pc' := 857) hB dc_L_law_856 rfl ?_
  refine y_sld (j := i + 2) (pc' := 858) hLw dc_L_law_857 rfl (by omega) ?_
  refine y_gV (c := 24) (ci := 4) (As := [.int (xs (i + 1)), .int (xs (i + 2))]) (rest := []) (pc' := 861) hB (hLw.2.2.1 _ _ (by omega) (by decide)) hR (H) mm_M_sorted q_765 q_766 q_767 (by decide) rfl rfl dc_L_law_858 rfl rfl rfl (Nat.le_of_ble_eq_true rfl) (fun v S' hpost => ?_)
  obtain ⟨hd0, hcode, hI2⟩ := hpost
  obtain ⟨r, rfl, hr⟩ := hd0
  show yW o (S') 861 [(5, .int (nI (c))), (4, .int (nI (i))), (3, .ref (o.G.ad (31))), (2, .ref (o.G.ad (24))), (1, .ref (o.G.ad (0))), (0, .ref (b))] [.int (yb r)]
  refine y_istore (pc' := 863) (lv' := [(6, .int (yb r)), (5, .int (nI (c))), (4, .int (nI (i))), (3, .ref (o.G.ad (31))), (2, .ref (o.G.ad (24))), (1, .ref (o.G.ad (0))), (0, .ref (b))]) hB hm dc_L_law_861 rfl (by decide) rfl ?_
  refine y_aload_n (pc' := 864) hB dc_L_law_863 rfl rfl 4 rfl ?_
  refine y_gV (c := 24) (ci := 4) (As := []) (rest := []) (pc' := 867) hB (hLw.2.2.1 _ _ (by decide) (by decide)) hR (ct_M_thrown o.l o.G S') mm_M_thrown q_664 q_665 q_666 (by decide) rfl rfl dc_L_law_864 rfl rfl rfl (Nat.le_of_ble_eq_true rfl) (fun v S' hpost => ?_)
  obtain ⟨rfl, hSS⟩ := hpost
  subst hSS
  show yW o (S') 867 [(6, .int (yb r)), (5, .int (nI (c))), (4, .int (nI (i))), (3, .ref (o.G.ad (31))), (2, .ref (o.G.ad (24))), (1, .ref (o.G.ad (0))), (0, .ref (b))] [.int (gF S' 24 0)]
  refine y_topi (y := nI (c)) (hcode) ?_
  refine y_iload (pc' := 869) hB dc_L_law_867 rfl 1 rfl ?_
  refine n_icmp_eq (pc' := 872) (tg := 874) hB dc_L_law_869 rfl rfl (by omega) (by omega) (fun b2 => ?_) (fun b2 => ?_)
  · refine y_iload (pc' := 876) hB dc_L_law_874 rfl 1 rfl ?_
    refine n_if_ne (pc' := 879) (tg := 898) hB dc_L_law_876 rfl rfl (by omega) (fun b3 => ?_) (fun b3 => ?_)
    · refine y_goto (tg := 1600) hB dc_L_law_898 rfl ?_
      refine y_sub [2, 3, 4, 5, 6] rfl ?_
      exact kk _ hI2
    · have e0 : c = 0 := by omega
      refine y_aload_n (pc' := 880) hB dc_L_law_879 rfl rfl 3 rfl ?_
      refine y_iconst (v := nI 0) (pc' := 881) hB dc_L_law_880 rfl rfl ?_
      refine y_lald (c := 31) (n := 1) (j := 0) (pc' := 882) hB dc_L_law_881 rfl (by decide) rfl (by omega) (by decide) ?_
      refine y_iload (pc' := 884) hB dc_L_law_882 rfl 0 rfl ?_
      refine y_if_eq (x := yb r) (pc' := 887) (tg := 891) hB dc_L_law_884 rfl rfl (fun b5 => ?_) (fun b5 => ?_)
      · have er : r = false := yb_0.mp b5
        refine y_lconst (v := 0) (pc' := 892) hB dc_L_law_891 rfl rfl ?_
        refine y_lcmp (pc' := 893) hB dc_L_law_892 rfl ?_
        refine y_if_eq (x := lg_cmp (gL (S') (31) (0)) (0)) (pc' := 896) (tg := 898) hB dc_L_law_893 rfl rfl (fun b4 => ?_) (fun b4 => ?_)
        · refine y_goto (tg := 1600) hB dc_L_law_898 rfl ?_
          refine y_sub [2, 3, 4, 5, 6] rfl ?_
          exact kk _ hI2
        · exact absurd (lg_0.mpr (by rw [hr e0, er]; rfl)) b4
      · have er : r = true := yb_n.mp b5
        refine y_lconst (v := 1) (pc' := 888) hB dc_L_law_887 rfl rfl ?_
        refine y_goto (tg := 892) hB dc_L_law_888 rfl ?_
        refine y_lcmp (pc' := 893) hB dc_L_law_892 rfl ?_
        refine y_if_eq (x := lg_cmp (gL (S') (31) (0)) (1)) (pc' := 896) (tg := 898) hB dc_L_law_893 rfl rfl (fun b4 => ?_) (fun b4 => ?_)
        · refine y_goto (tg := 1600) hB dc_L_law_898 rfl ?_
          refine y_sub [2, 3, 4, 5, 6] rfl ?_
          exact kk _ hI2
        · exact absurd (lg_0.mpr (by rw [hr e0, er]; rfl)) b4
  · omega
set_option maxHeartbeats 4000000 in
set_option maxRecDepth 100000 in
theorem lg_sorted {o : YO} {b L : Nat} {xs : Nat → Int32} (hLw : yLw o b L xs) (hR : yRm o 1 6) (i : Nat) (hi : i + 7 ≤ L) (S : YS) (hI : yInv S) (kk : ∀ S2 : YS, yInv S2 → yW (yat o (o.cells + 1) (o.slots + 6)) S2 1600 [(4, .int (nI (i))), (3, .ref (o.G.ad (31))), (2, .ref (o.G.ad (24))), (1, .ref (o.G.ad (0))), (0, .ref (b))] []) : yW o S 826 [(4, .int (nI (i))), (3, .ref (o.G.ad (31))), (2, .ref (o.G.ad (24))), (1, .ref (o.G.ad (0))), (0, .ref (b))] [] := by
  have hB := hLw.1
  have hm := hLw.2.1
  have hL := hLw.2.2.2.2.2.2.1
  refine y_aload_n (pc' := 827) hB dc_L_law_826 rfl rfl 3 rfl ?_
  refine y_aload_n (pc' := 828) hB dc_L_law_827 rfl rfl 4 rfl ?_
  refine y_iload (pc' := 830) hB dc_L_law_828 rfl 0 rfl ?_
  refine y_iconst (v := nI 1) (pc' := 831) hB dc_L_law_830 rfl rfl ?_
  refine n_iadd (x := i) (y := 1) (pc' := 832) hB dc_L_law_831 rfl ?_
  refine y_sld (j := i + 1) (pc' := 833) hLw dc_L_law_832 rfl (by omega) ?_
  refine y_aload_n (pc' := 834) hB dc_L_law_833 rfl rfl 4 rfl ?_
  refine y_iload (pc' := 836) hB dc_L_law_834 rfl 0 rfl ?_
  refine y_iconst (v := nI 2) (pc' := 837) hB dc_L_law_836 rfl rfl ?_
  refine n_iadd (x := i) (y := 2) (pc' := 838) hB dc_L_law_837 rfl ?_
  refine y_sld (j := i + 2) (pc' := 839) hLw dc_L_law_838 rfl (by omega) ?_
  refine y_aload_n (pc' := 840) hB dc_L_law_839 rfl rfl 1 rfl ?_
  obtain ⟨c, P, hc4, hH, hM⟩ := duo_sorted o.l hLw.2.2.2.2.2.2.2 o.G S hI (xs (i + 1)) (xs (i + 2))
  refine y_hS (k := 4) (As := [.ref (o.G.ad (0)), .int (xs (i + 1)), .int (xs (i + 2)), .ref (o.G.ad (31))]) (rest := []) (pc' := 843) hB (hLw.2.2.1 _ _ (by omega) (by decide)) hR hH q_535 q_0 ⟨by decide, by decide⟩ (by decide +kernel) q_533 q_534 dc_L_law_840 rfl rfl rfl (Nat.le_of_ble_eq_true rfl) (fun v S1 hpost => ?_)
  obtain ⟨rfl, hP⟩ := hpost
  obtain ⟨lev, hlev, hC⟩ := hM S1 hP
  exact lh_sorted (o := (yat o (o.cells + 1) (o.slots + 6))) hLw ⟨hR.1, hR.2⟩ i hi S1 c hc4 lev hlev hC kk
set_option maxHeartbeats 4000000 in
set_option maxRecDepth 100000 in
theorem lh_runs {o : YO} {b L : Nat} {xs : Nat → Int32} (hLw : yLw o b L xs) (hR : yRm o 0 0) (i : Nat) (hi : i + 7 ≤ L) (S1 : YS) (c : Nat) (hc4 : c < 4) (lev : Nat) (hlev : lev ≤ 30) (H : yC o.l mn_M_runs mb_M_runs 6 (some .int) lev o.G [.ref (o.G.ad (24)), .int (xs (i + 1)), .int (xs (i + 2))] S1 (fun v S2 => dI v (gL S2 31 0) c ∧ gF S2 24 0 = nI c ∧ yInv S2)) (kk : ∀ S2 : YS, yInv S2 → yW o S2 1600 [(4, .int (nI (i))), (3, .ref (o.G.ad (31))), (2, .ref (o.G.ad (24))), (1, .ref (o.G.ad (0))), (0, .ref (b))] []) : yW o S1 918 [(4, .int (nI (i))), (3, .ref (o.G.ad (31))), (2, .ref (o.G.ad (24))), (1, .ref (o.G.ad (0))), (0, .ref (b))] [.int (nI c)] := by
  have hB := hLw.1
  have hm := hLw.2.1
  have hL := hLw.2.2.2.2.2.2.1
  refine y_istore (pc' := 920) (lv' := [(5, .int (nI (c))), (4, .int (nI (i))), (3, .ref (o.G.ad (31))), (2, .ref (o.G.ad (24))), (1, .ref (o.G.ad (0))), (0, .ref (b))]) hB hm dc_L_law_918 rfl (by decide) rfl ?_
  refine y_aload_n (pc' := 921) hB dc_L_law_920 rfl rfl 3 rfl ?_
  refine y_aload_n (pc' := 922) hB dc_L_law_921 rfl rfl 5 rfl ?_
  refine y_iload (pc' := 924) hB dc_L_law_922 rfl 1 rfl ?_
  refine y_iconst (v := nI 1) (pc' := 925) hB dc_L_law_924 rfl rfl ?_
  refine n_iadd (x := i) (y := 1) (pc' := 926) hB dc_L_law_925 rfl ?_
  refine y_sld (j := i + 1) (pc' := 927) hLw dc_L_law_926 rfl (by omega) ?_
  refine y_aload_n (pc' := 928) hB dc_L_law_927 rfl rfl 5 rfl ?_
  refine y_iload (pc' := 930) hB dc_L_law_928 rfl 1 rfl ?_
  refine y_iconst (v := nI 2) (pc' := 931) hB dc_L_law_930 rfl rfl ?_
  refine n_iadd (x := i) (y := 2) (pc' := 932) hB dc_L_law_931 rfl ?_
  refine y_sld (j := i + 2) (pc' := 933) hLw dc_L_law_932 rfl (by omega) ?_
  refine y_gV (c := 24) (ci := 4) (As := [.int (xs (i + 1)), .int (xs (i + 2))]) (rest := []) (pc' := 936) hB (hLw.2.2.1 _ _ (by omega) (by decide)) hR (H) mm_M_runs q_773 q_774 q_775 (by decide) rfl rfl dc_L_law_933 rfl rfl rfl (Nat.le_of_ble_eq_true rfl) (fun v S' hpost => ?_)
  obtain ⟨hd0, hcode, hI2⟩ := hpost
  obtain ⟨r, rfl, hr⟩ := hd0
  show yW o (S') 936 [(5, .int (nI (c))), (4, .int (nI (i))), (3, .ref (o.G.ad (31))), (2, .ref (o.G.ad (24))), (1, .ref (o.G.ad (0))), (0, .ref (b))] [.int (r)]
  refine y_istore (pc' := 938) (lv' := [(6, .int (r)), (5, .int (nI (c))), (4, .int (nI (i))), (3, .ref (o.G.ad (31))), (2, .ref (o.G.ad (24))), (1, .ref (o.G.ad (0))), (0, .ref (b))]) hB hm dc_L_law_936 rfl (by decide) rfl ?_
  refine y_aload_n (pc' := 939) hB dc_L_law_938 rfl rfl 4 rfl ?_
  refine y_gV (c := 24) (ci := 4) (As := []) (rest := []) (pc' := 942) hB (hLw.2.2.1 _ _ (by decide) (by decide)) hR (ct_M_thrown o.l o.G S') mm_M_thrown q_664 q_665 q_666 (by decide) rfl rfl dc_L_law_939 rfl rfl rfl (Nat.le_of_ble_eq_true rfl) (fun v S' hpost => ?_)
  obtain ⟨rfl, hSS⟩ := hpost
  subst hSS
  show yW o (S') 942 [(6, .int (r)), (5, .int (nI (c))), (4, .int (nI (i))), (3, .ref (o.G.ad (31))), (2, .ref (o.G.ad (24))), (1, .ref (o.G.ad (0))), (0, .ref (b))] [.int (gF S' 24 0)]
  refine y_topi (y := nI (c)) (hcode) ?_
  refine y_iload (pc' := 944) hB dc_L_law_942 rfl 1 rfl ?_
  refine n_icmp_eq (pc' := 947) (tg := 949) hB dc_L_law_944 rfl rfl (by omega) (by omega) (fun b2 => ?_) (fun b2 => ?_)
  · refine y_iload (pc' := 951) hB dc_L_law_949 rfl 1 rfl ?_
    refine n_if_ne (pc' := 954) (tg := 966) hB dc_L_law_951 rfl rfl (by omega) (fun b3 => ?_) (fun b3 => ?_)
    · refine y_goto (tg := 1600) hB dc_L_law_966 rfl ?_
      refine y_sub [2, 3, 4, 5, 6] rfl ?_
      exact kk _ hI2
    · have e0 : c = 0 := by omega
      refine y_aload_n (pc' := 955) hB dc_L_law_954 rfl rfl 3 rfl ?_
      refine y_iconst (v := nI 0) (pc' := 956) hB dc_L_law_955 rfl rfl ?_
      refine y_lald (c := 31) (n := 1) (j := 0) (pc' := 957) hB dc_L_law_956 rfl (by decide) rfl (by omega) (by decide) ?_
      refine y_iload (pc' := 959) hB dc_L_law_957 rfl 0 rfl ?_
      refine y_i2l (v := Int32.toInt64 (r)) (pc' := 960) hB dc_L_law_959 rfl rfl ?_
      refine y_lcmp (pc' := 961) hB dc_L_law_960 rfl ?_
      refine y_if_eq (x := lg_cmp (gL (S') (31) (0)) (Int32.toInt64 (r))) (pc' := 964) (tg := 966) hB dc_L_law_961 rfl rfl (fun b4 => ?_) (fun b4 => ?_)
      · refine y_goto (tg := 1600) hB dc_L_law_966 rfl ?_
        refine y_sub [2, 3, 4, 5, 6] rfl ?_
        exact kk _ hI2
      · exact absurd (lg_0.mpr (hr e0)) b4
  · omega
set_option maxHeartbeats 4000000 in
set_option maxRecDepth 100000 in
theorem lg_runs {o : YO} {b L : Nat} {xs : Nat → Int32} (hLw : yLw o b L xs) (hR : yRm o 1 6) (i : Nat) (hi : i + 7 ≤ L) (S : YS) (hI : yInv S) (kk : ∀ S2 : YS, yInv S2 → yW (yat o (o.cells + 1) (o.slots + 6)) S2 1600 [(4, .int (nI (i))), (3, .ref (o.G.ad (31))), (2, .ref (o.G.ad (24))), (1, .ref (o.G.ad (0))), (0, .ref (b))] []) : yW o S 901 [(4, .int (nI (i))), (3, .ref (o.G.ad (31))), (2, .ref (o.G.ad (24))), (1, .ref (o.G.ad (0))), (0, .ref (b))] [] := by
  have hB := hLw.1
  have hm := hLw.2.1
  have hL := hLw.2.2.2.2.2.2.1
  refine y_aload_n (pc' := 902) hB dc_L_law_901 rfl rfl 3 rfl ?_
  refine y_aload_n (pc' := 903) hB dc_L_law_902 rfl rfl 4 rfl ?_
  refine y_iload (pc' := 905) hB dc_L_law_903 rfl 0 rfl ?_
  refine y_iconst (v := nI 1) (pc' := 906) hB dc_L_law_905 rfl rfl ?_
  refine n_iadd (x := i) (y := 1) (pc' := 907) hB dc_L_law_906 rfl ?_
  refine y_sld (j := i + 1) (pc' := 908) hLw dc_L_law_907 rfl (by omega) ?_
  refine y_aload_n (pc' := 909) hB dc_L_law_908 rfl rfl 4 rfl ?_
  refine y_iload (pc' := 911) hB dc_L_law_909 rfl 0 rfl ?_
  refine y_iconst (v := nI 2) (pc' := 912) hB dc_L_law_911 rfl rfl ?_
  refine n_iadd (x := i) (y := 2) (pc' := 913) hB dc_L_law_912 rfl ?_
  refine y_sld (j := i + 2) (pc' := 914) hLw dc_L_law_913 rfl (by omega) ?_
  refine y_aload_n (pc' := 915) hB dc_L_law_914 rfl rfl 1 rfl ?_
  obtain ⟨c, P, hc4, hH, hM⟩ := duo_runs o.l hLw.2.2.2.2.2.2.2 o.G S hI (xs (i + 1)) (xs (i + 2))
  refine y_hS (k := 4) (As := [.ref (o.G.ad (0)), .int (xs (i + 1)), .int (xs (i + 2)), .ref (o.G.ad (31))]) (rest := []) (pc' := 918) hB (hLw.2.2.1 _ _ (by omega) (by decide)) hR hH q_551 q_0 ⟨by decide, by decide⟩ (by decide +kernel) q_549 q_550 dc_L_law_915 rfl rfl rfl (Nat.le_of_ble_eq_true rfl) (fun v S1 hpost => ?_)
  obtain ⟨rfl, hP⟩ := hpost
  obtain ⟨lev, hlev, hC⟩ := hM S1 hP
  exact lh_runs (o := (yat o (o.cells + 1) (o.slots + 6))) hLw ⟨hR.1, hR.2⟩ i hi S1 c hc4 lev hlev hC kk
set_option maxHeartbeats 4000000 in
set_option maxRecDepth 100000 in
theorem lh_inversions {o : YO} {b L : Nat} {xs : Nat → Int32} (hLw : yLw o b L xs) (hR : yRm o 0 0) (i : Nat) (hi : i + 7 ≤ L) (S1 : YS) (c : Nat) (hc4 : c < 4) (lev : Nat) (hlev : lev ≤ 30) (H : yC o.l mn_M_inversions mb_M_inversions 6 (some .int) lev o.G [.ref (o.G.ad (24)), .int (xs (i + 1)), .int (xs (i + 2))] S1 (fun v S2 => dI v (gL S2 31 0) c ∧ gF S2 24 0 = nI c ∧ yInv S2)) (kk : ∀ S2 : YS, yInv S2 → yW o S2 1600 [(4, .int (nI (i))), (3, .ref (o.G.ad (31))), (2, .ref (o.G.ad (24))), (1, .ref (o.G.ad (0))), (0, .ref (b))] []) : yW o S1 986 [(4, .int (nI (i))), (3, .ref (o.G.ad (31))), (2, .ref (o.G.ad (24))), (1, .ref (o.G.ad (0))), (0, .ref (b))] [.int (nI c)] := by
  have hB := hLw.1
  have hm := hLw.2.1
  have hL := hLw.2.2.2.2.2.2.1
  refine y_istore (pc' := 988) (lv' := [(5, .int (nI (c))), (4, .int (nI (i))), (3, .ref (o.G.ad (31))), (2, .ref (o.G.ad (24))), (1, .ref (o.G.ad (0))), (0, .ref (b))]) hB hm dc_L_law_986 rfl (by decide) rfl ?_
  refine y_aload_n (pc' := 989) hB dc_L_law_988 rfl rfl 3 rfl ?_
  refine y_aload_n (pc' := 990) hB dc_L_law_989 rfl rfl 5 rfl ?_
  refine y_iload (pc' := 992) hB dc_L_law_990 rfl 1 rfl ?_
  refine y_iconst (v := nI 1) (pc' := 993) hB dc_L_law_992 rfl rfl ?_
  refine n_iadd (x := i) (y := 1) (pc' := 994) hB dc_L_law_993 rfl ?_
  refine y_sld (j := i + 1) (pc' := 995) hLw dc_L_law_994 rfl (by omega) ?_
  refine y_aload_n (pc' := 996) hB dc_L_law_995 rfl rfl 5 rfl ?_
  refine y_iload (pc' := 998) hB dc_L_law_996 rfl 1 rfl ?_
  refine y_iconst (v := nI 2) (pc' := 999) hB dc_L_law_998 rfl rfl ?_
  refine n_iadd (x := i) (y := 2) (pc' := 1000) hB dc_L_law_999 rfl ?_
  refine y_sld (j := i + 2) (pc' := 1001) hLw dc_L_law_1000 rfl (by omega) ?_
  refine y_gV (c := 24) (ci := 4) (As := [.int (xs (i + 1)), .int (xs (i + 2))]) (rest := []) (pc' := 1004) hB (hLw.2.2.1 _ _ (by omega) (by decide)) hR (H) mm_M_inversions q_781 q_782 q_783 (by decide) rfl rfl dc_L_law_1001 rfl rfl rfl (Nat.le_of_ble_eq_true rfl) (fun v S' hpost => ?_)
  obtain ⟨hd0, hcode, hI2⟩ := hpost
  obtain ⟨r, rfl, hr⟩ := hd0
  show yW o (S') 1004 [(5, .int (nI (c))), (4, .int (nI (i))), (3, .ref (o.G.ad (31))), (2, .ref (o.G.ad (24))), (1, .ref (o.G.ad (0))), (0, .ref (b))] [.int (r)]
  refine y_istore (pc' := 1006) (lv' := [(6, .int (r)), (5, .int (nI (c))), (4, .int (nI (i))), (3, .ref (o.G.ad (31))), (2, .ref (o.G.ad (24))), (1, .ref (o.G.ad (0))), (0, .ref (b))]) hB hm dc_L_law_1004 rfl (by decide) rfl ?_
  refine y_aload_n (pc' := 1007) hB dc_L_law_1006 rfl rfl 4 rfl ?_
  refine y_gV (c := 24) (ci := 4) (As := []) (rest := []) (pc' := 1010) hB (hLw.2.2.1 _ _ (by decide) (by decide)) hR (ct_M_thrown o.l o.G S') mm_M_thrown q_664 q_665 q_666 (by decide) rfl rfl dc_L_law_1007 rfl rfl rfl (Nat.le_of_ble_eq_true rfl) (fun v S' hpost => ?_)
  obtain ⟨rfl, hSS⟩ := hpost
  subst hSS
  show yW o (S') 1010 [(6, .int (r)), (5, .int (nI (c))), (4, .int (nI (i))), (3, .ref (o.G.ad (31))), (2, .ref (o.G.ad (24))), (1, .ref (o.G.ad (0))), (0, .ref (b))] [.int (gF S' 24 0)]
  refine y_topi (y := nI (c)) (hcode) ?_
  refine y_iload (pc' := 1012) hB dc_L_law_1010 rfl 1 rfl ?_
  refine n_icmp_eq (pc' := 1015) (tg := 1017) hB dc_L_law_1012 rfl rfl (by omega) (by omega) (fun b2 => ?_) (fun b2 => ?_)
  · refine y_iload (pc' := 1019) hB dc_L_law_1017 rfl 1 rfl ?_
    refine n_if_ne (pc' := 1022) (tg := 1034) hB dc_L_law_1019 rfl rfl (by omega) (fun b3 => ?_) (fun b3 => ?_)
    · refine y_goto (tg := 1600) hB dc_L_law_1034 rfl ?_
      refine y_sub [2, 3, 4, 5, 6] rfl ?_
      exact kk _ hI2
    · have e0 : c = 0 := by omega
      refine y_aload_n (pc' := 1023) hB dc_L_law_1022 rfl rfl 3 rfl ?_
      refine y_iconst (v := nI 0) (pc' := 1024) hB dc_L_law_1023 rfl rfl ?_
      refine y_lald (c := 31) (n := 1) (j := 0) (pc' := 1025) hB dc_L_law_1024 rfl (by decide) rfl (by omega) (by decide) ?_
      refine y_iload (pc' := 1027) hB dc_L_law_1025 rfl 0 rfl ?_
      refine y_i2l (v := Int32.toInt64 (r)) (pc' := 1028) hB dc_L_law_1027 rfl rfl ?_
      refine y_lcmp (pc' := 1029) hB dc_L_law_1028 rfl ?_
      refine y_if_eq (x := lg_cmp (gL (S') (31) (0)) (Int32.toInt64 (r))) (pc' := 1032) (tg := 1034) hB dc_L_law_1029 rfl rfl (fun b4 => ?_) (fun b4 => ?_)
      · refine y_goto (tg := 1600) hB dc_L_law_1034 rfl ?_
        refine y_sub [2, 3, 4, 5, 6] rfl ?_
        exact kk _ hI2
      · exact absurd (lg_0.mpr (hr e0)) b4
  · omega
set_option maxHeartbeats 4000000 in
set_option maxRecDepth 100000 in
theorem lg_inversions {o : YO} {b L : Nat} {xs : Nat → Int32} (hLw : yLw o b L xs) (hR : yRm o 1 6) (i : Nat) (hi : i + 7 ≤ L) (S : YS) (hI : yInv S) (kk : ∀ S2 : YS, yInv S2 → yW (yat o (o.cells + 1) (o.slots + 6)) S2 1600 [(4, .int (nI (i))), (3, .ref (o.G.ad (31))), (2, .ref (o.G.ad (24))), (1, .ref (o.G.ad (0))), (0, .ref (b))] []) : yW o S 969 [(4, .int (nI (i))), (3, .ref (o.G.ad (31))), (2, .ref (o.G.ad (24))), (1, .ref (o.G.ad (0))), (0, .ref (b))] [] := by
  have hB := hLw.1
  have hm := hLw.2.1
  have hL := hLw.2.2.2.2.2.2.1
  refine y_aload_n (pc' := 970) hB dc_L_law_969 rfl rfl 3 rfl ?_
  refine y_aload_n (pc' := 971) hB dc_L_law_970 rfl rfl 4 rfl ?_
  refine y_iload (pc' := 973) hB dc_L_law_971 rfl 0 rfl ?_
  refine y_iconst (v := nI 1) (pc' := 974) hB dc_L_law_973 rfl rfl ?_
  refine n_iadd (x := i) (y := 1) (pc' := 975) hB dc_L_law_974 rfl ?_
  refine y_sld (j := i + 1) (pc' := 976) hLw dc_L_law_975 rfl (by omega) ?_
  refine y_aload_n (pc' := 977) hB dc_L_law_976 rfl rfl 4 rfl ?_
  refine y_iload (pc' := 979) hB dc_L_law_977 rfl 0 rfl ?_
  refine y_iconst (v := nI 2) (pc' := 980) hB dc_L_law_979 rfl rfl ?_
  refine n_iadd (x := i) (y := 2) (pc' := 981) hB dc_L_law_980 rfl ?_
  refine y_sld (j := i + 2) (pc' := 982) hLw dc_L_law_981 rfl (by omega) ?_
  refine y_aload_n (pc' := 983) hB dc_L_law_982 rfl rfl 1 rfl ?_
  obtain ⟨c, P, hc4, hH, hM⟩ := duo_inversions o.l hLw.2.2.2.2.2.2.2 o.G S hI (xs (i + 1)) (xs (i + 2))
  refine y_hS (k := 4) (As := [.ref (o.G.ad (0)), .int (xs (i + 1)), .int (xs (i + 2)), .ref (o.G.ad (31))]) (rest := []) (pc' := 986) hB (hLw.2.2.1 _ _ (by omega) (by decide)) hR hH q_560 q_0 ⟨by decide, by decide⟩ (by decide +kernel) q_558 q_559 dc_L_law_983 rfl rfl rfl (Nat.le_of_ble_eq_true rfl) (fun v S1 hpost => ?_)
  obtain ⟨rfl, hP⟩ := hpost
  obtain ⟨lev, hlev, hC⟩ := hM S1 hP
  exact lh_inversions (o := (yat o (o.cells + 1) (o.slots + 6))) hLw ⟨hR.1, hR.2⟩ i hi S1 c hc4 lev hlev hC kk
