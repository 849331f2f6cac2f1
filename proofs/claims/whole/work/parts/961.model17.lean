/-! REFERENCE: copy, rankOf, single -/
theorem dc_M_copy_0 : decode mb_M_copy 0 = .ok (.aload_n 0, 1) := by decide +kernel
theorem dc_M_copy_1 : decode mb_M_copy 1 = .ok (.iload_n 1, 1) := by decide +kernel
theorem dc_M_copy_2 : decode mb_M_copy 2 = .ok (.ifCond .lt 17, 3) := by decide +kernel
theorem dc_M_copy_5 : decode mb_M_copy 5 = .ok (.iload_n 1, 1) := by decide +kernel
theorem dc_M_copy_6 : decode mb_M_copy 6 = .ok (.iconst 3, 1) := by decide +kernel
theorem dc_M_copy_7 : decode mb_M_copy 7 = .ok (.if_icmp .gt 12, 3) := by decide +kernel
theorem dc_M_copy_10 : decode mb_M_copy 10 = .ok (.iload_n 2, 1) := by decide +kernel
theorem dc_M_copy_11 : decode mb_M_copy 11 = .ok (.ifCond .lt 8, 3) := by decide +kernel
theorem dc_M_copy_14 : decode mb_M_copy 14 = .ok (.iload_n 2, 1) := by decide +kernel
theorem dc_M_copy_15 : decode mb_M_copy 15 = .ok (.iconst 3, 1) := by decide +kernel
theorem dc_M_copy_16 : decode mb_M_copy 16 = .ok (.if_icmp .le 7, 3) := by decide +kernel
theorem dc_M_copy_19 : decode mb_M_copy 19 = .ok (.iconst 1, 1) := by decide +kernel
theorem dc_M_copy_20 : decode mb_M_copy 20 = .ok (.goto 4, 3) := by decide +kernel
theorem dc_M_copy_23 : decode mb_M_copy 23 = .ok (.iconst 0, 1) := by decide +kernel
theorem dc_M_copy_24 : decode mb_M_copy 24 = .ok (.putfield 29, 3) := by decide +kernel
theorem dc_M_copy_27 : decode mb_M_copy 27 = .ok (.aload_n 0, 1) := by decide +kernel
theorem dc_M_copy_28 : decode mb_M_copy 28 = .ok (.getfield 29, 3) := by decide +kernel
theorem dc_M_copy_31 : decode mb_M_copy 31 = .ok (.ifCond .le 4, 3) := by decide +kernel
theorem dc_M_copy_34 : decode mb_M_copy 34 = .ok (.return_, 1) := by decide +kernel
theorem dc_M_copy_35 : decode mb_M_copy 35 = .ok (.aload_n 0, 1) := by decide +kernel
theorem dc_M_copy_36 : decode mb_M_copy 36 = .ok (.getfield 17, 3) := by decide +kernel
theorem dc_M_copy_39 : decode mb_M_copy 39 = .ok (.iload_n 2, 1) := by decide +kernel
theorem dc_M_copy_40 : decode mb_M_copy 40 = .ok (.aload_n 0, 1) := by decide +kernel
theorem dc_M_copy_41 : decode mb_M_copy 41 = .ok (.getfield 17, 3) := by decide +kernel
theorem dc_M_copy_44 : decode mb_M_copy 44 = .ok (.iload_n 1, 1) := by decide +kernel
theorem dc_M_copy_45 : decode mb_M_copy 45 = .ok (.iaload, 1) := by decide +kernel
theorem dc_M_copy_46 : decode mb_M_copy 46 = .ok (.iastore, 1) := by decide +kernel
theorem dc_M_copy_47 : decode mb_M_copy 47 = .ok (.iconst 0, 1) := by decide +kernel
theorem dc_M_copy_48 : decode mb_M_copy 48 = .ok (.istore_n 3, 1) := by decide +kernel
theorem dc_M_copy_49 : decode mb_M_copy 49 = .ok (.iload_n 3, 1) := by decide +kernel
theorem dc_M_copy_50 : decode mb_M_copy 50 = .ok (.aload_n 0, 1) := by decide +kernel
theorem dc_M_copy_51 : decode mb_M_copy 51 = .ok (.getfield 17, 3) := by decide +kernel
theorem dc_M_copy_54 : decode mb_M_copy 54 = .ok (.iload_n 1, 1) := by decide +kernel
theorem dc_M_copy_55 : decode mb_M_copy 55 = .ok (.iaload, 1) := by decide +kernel
theorem dc_M_copy_56 : decode mb_M_copy 56 = .ok (.if_icmp .ge 57, 3) := by decide +kernel
theorem dc_M_copy_59 : decode mb_M_copy 59 = .ok (.aload_n 0, 1) := by decide +kernel
theorem dc_M_copy_60 : decode mb_M_copy 60 = .ok (.getfield 7, 3) := by decide +kernel
theorem dc_M_copy_63 : decode mb_M_copy 63 = .ok (.sipush 1024, 3) := by decide +kernel
theorem dc_M_copy_66 : decode mb_M_copy 66 = .ok (.iload_n 2, 1) := by decide +kernel
theorem dc_M_copy_67 : decode mb_M_copy 67 = .ok (.imul, 1) := by decide +kernel
theorem dc_M_copy_68 : decode mb_M_copy 68 = .ok (.iload_n 3, 1) := by decide +kernel
theorem dc_M_copy_69 : decode mb_M_copy 69 = .ok (.iadd, 1) := by decide +kernel
theorem dc_M_copy_70 : decode mb_M_copy 70 = .ok (.aload_n 0, 1) := by decide +kernel
theorem dc_M_copy_71 : decode mb_M_copy 71 = .ok (.getfield 7, 3) := by decide +kernel
theorem dc_M_copy_74 : decode mb_M_copy 74 = .ok (.sipush 1024, 3) := by decide +kernel
theorem dc_M_copy_77 : decode mb_M_copy 77 = .ok (.iload_n 1, 1) := by decide +kernel
theorem dc_M_copy_78 : decode mb_M_copy 78 = .ok (.imul, 1) := by decide +kernel
theorem dc_M_copy_79 : decode mb_M_copy 79 = .ok (.iload_n 3, 1) := by decide +kernel
theorem dc_M_copy_80 : decode mb_M_copy 80 = .ok (.iadd, 1) := by decide +kernel
theorem dc_M_copy_81 : decode mb_M_copy 81 = .ok (.laload, 1) := by decide +kernel
theorem dc_M_copy_82 : decode mb_M_copy 82 = .ok (.lastore, 1) := by decide +kernel
theorem dc_M_copy_83 : decode mb_M_copy 83 = .ok (.aload_n 0, 1) := by decide +kernel
theorem dc_M_copy_84 : decode mb_M_copy 84 = .ok (.getfield 13, 3) := by decide +kernel
theorem dc_M_copy_87 : decode mb_M_copy 87 = .ok (.sipush 1024, 3) := by decide +kernel
theorem dc_M_copy_90 : decode mb_M_copy 90 = .ok (.iload_n 2, 1) := by decide +kernel
theorem dc_M_copy_91 : decode mb_M_copy 91 = .ok (.imul, 1) := by decide +kernel
theorem dc_M_copy_92 : decode mb_M_copy 92 = .ok (.iload_n 3, 1) := by decide +kernel
theorem dc_M_copy_93 : decode mb_M_copy 93 = .ok (.iadd, 1) := by decide +kernel
theorem dc_M_copy_94 : decode mb_M_copy 94 = .ok (.aload_n 0, 1) := by decide +kernel
theorem dc_M_copy_95 : decode mb_M_copy 95 = .ok (.getfield 13, 3) := by decide +kernel
theorem dc_M_copy_98 : decode mb_M_copy 98 = .ok (.sipush 1024, 3) := by decide +kernel
theorem dc_M_copy_101 : decode mb_M_copy 101 = .ok (.iload_n 1, 1) := by decide +kernel
theorem dc_M_copy_102 : decode mb_M_copy 102 = .ok (.imul, 1) := by decide +kernel
theorem dc_M_copy_103 : decode mb_M_copy 103 = .ok (.iload_n 3, 1) := by decide +kernel
theorem dc_M_copy_104 : decode mb_M_copy 104 = .ok (.iadd, 1) := by decide +kernel
theorem dc_M_copy_105 : decode mb_M_copy 105 = .ok (.iaload, 1) := by decide +kernel
theorem dc_M_copy_106 : decode mb_M_copy 106 = .ok (.iastore, 1) := by decide +kernel
theorem dc_M_copy_107 : decode mb_M_copy 107 = .ok (.iinc 3 1, 3) := by decide +kernel
theorem dc_M_copy_110 : decode mb_M_copy 110 = .ok (.goto (-61), 3) := by decide +kernel
theorem dc_M_copy_113 : decode mb_M_copy 113 = .ok (.return_, 1) := by decide +kernel
theorem dc_M_rankOf_0 : decode mb_M_rankOf 0 = .ok (.iconst 0, 1) := by decide +kernel
theorem dc_M_rankOf_1 : decode mb_M_rankOf 1 = .ok (.istore 4, 2) := by decide +kernel
theorem dc_M_rankOf_3 : decode mb_M_rankOf 3 = .ok (.aload_n 0, 1) := by decide +kernel
theorem dc_M_rankOf_4 : decode mb_M_rankOf 4 = .ok (.getfield 7, 3) := by decide +kernel
theorem dc_M_rankOf_7 : decode mb_M_rankOf 7 = .ok (.sipush 1024, 3) := by decide +kernel
theorem dc_M_rankOf_10 : decode mb_M_rankOf 10 = .ok (.iload_n 1, 1) := by decide +kernel
theorem dc_M_rankOf_11 : decode mb_M_rankOf 11 = .ok (.imul, 1) := by decide +kernel
theorem dc_M_rankOf_12 : decode mb_M_rankOf 12 = .ok (.iload_n 3, 1) := by decide +kernel
theorem dc_M_rankOf_13 : decode mb_M_rankOf 13 = .ok (.iadd, 1) := by decide +kernel
theorem dc_M_rankOf_14 : decode mb_M_rankOf 14 = .ok (.laload, 1) := by decide +kernel
theorem dc_M_rankOf_15 : decode mb_M_rankOf 15 = .ok (.lstore 5, 2) := by decide +kernel
theorem dc_M_rankOf_17 : decode mb_M_rankOf 17 = .ok (.iconst 0, 1) := by decide +kernel
theorem dc_M_rankOf_18 : decode mb_M_rankOf 18 = .ok (.istore 7, 2) := by decide +kernel
theorem dc_M_rankOf_20 : decode mb_M_rankOf 20 = .ok (.iload 7, 2) := by decide +kernel
theorem dc_M_rankOf_22 : decode mb_M_rankOf 22 = .ok (.aload_n 0, 1) := by decide +kernel
theorem dc_M_rankOf_23 : decode mb_M_rankOf 23 = .ok (.getfield 17, 3) := by decide +kernel
theorem dc_M_rankOf_26 : decode mb_M_rankOf 26 = .ok (.iload_n 1, 1) := by decide +kernel
theorem dc_M_rankOf_27 : decode mb_M_rankOf 27 = .ok (.iaload, 1) := by decide +kernel
theorem dc_M_rankOf_28 : decode mb_M_rankOf 28 = .ok (.if_icmp .ge 75, 3) := by decide +kernel
theorem dc_M_rankOf_31 : decode mb_M_rankOf 31 = .ok (.aload_n 0, 1) := by decide +kernel
theorem dc_M_rankOf_32 : decode mb_M_rankOf 32 = .ok (.getfield 7, 3) := by decide +kernel
theorem dc_M_rankOf_35 : decode mb_M_rankOf 35 = .ok (.sipush 1024, 3) := by decide +kernel
theorem dc_M_rankOf_38 : decode mb_M_rankOf 38 = .ok (.iload_n 1, 1) := by decide +kernel
theorem dc_M_rankOf_39 : decode mb_M_rankOf 39 = .ok (.imul, 1) := by decide +kernel
theorem dc_M_rankOf_40 : decode mb_M_rankOf 40 = .ok (.iload 7, 2) := by decide +kernel
theorem dc_M_rankOf_42 : decode mb_M_rankOf 42 = .ok (.iadd, 1) := by decide +kernel
theorem dc_M_rankOf_43 : decode mb_M_rankOf 43 = .ok (.laload, 1) := by decide +kernel
theorem dc_M_rankOf_44 : decode mb_M_rankOf 44 = .ok (.lstore 8, 2) := by decide +kernel
theorem dc_M_rankOf_46 : decode mb_M_rankOf 46 = .ok (.iload_n 2, 1) := by decide +kernel
theorem dc_M_rankOf_47 : decode mb_M_rankOf 47 = .ok (.lload 8, 2) := by decide +kernel
theorem dc_M_rankOf_49 : decode mb_M_rankOf 49 = .ok (.lload 5, 2) := by decide +kernel
theorem dc_M_rankOf_51 : decode mb_M_rankOf 51 = .ok (.invokestatic 52, 3) := by decide +kernel
theorem dc_M_rankOf_54 : decode mb_M_rankOf 54 = .ok (.ifCond .ne 20, 3) := by decide +kernel
theorem dc_M_rankOf_57 : decode mb_M_rankOf 57 = .ok (.iload 7, 2) := by decide +kernel
theorem dc_M_rankOf_59 : decode mb_M_rankOf 59 = .ok (.iload_n 3, 1) := by decide +kernel
theorem dc_M_rankOf_60 : decode mb_M_rankOf 60 = .ok (.if_icmp .ge 18, 3) := by decide +kernel
theorem dc_M_rankOf_63 : decode mb_M_rankOf 63 = .ok (.iload_n 2, 1) := by decide +kernel
theorem dc_M_rankOf_64 : decode mb_M_rankOf 64 = .ok (.lload 5, 2) := by decide +kernel
theorem dc_M_rankOf_66 : decode mb_M_rankOf 66 = .ok (.lload 8, 2) := by decide +kernel
theorem dc_M_rankOf_68 : decode mb_M_rankOf 68 = .ok (.invokestatic 52, 3) := by decide +kernel
theorem dc_M_rankOf_71 : decode mb_M_rankOf 71 = .ok (.ifCond .ne 7, 3) := by decide +kernel
theorem dc_M_rankOf_74 : decode mb_M_rankOf 74 = .ok (.iconst 1, 1) := by decide +kernel
theorem dc_M_rankOf_75 : decode mb_M_rankOf 75 = .ok (.goto 4, 3) := by decide +kernel
theorem dc_M_rankOf_78 : decode mb_M_rankOf 78 = .ok (.iconst 0, 1) := by decide +kernel
theorem dc_M_rankOf_79 : decode mb_M_rankOf 79 = .ok (.istore 10, 2) := by decide +kernel
theorem dc_M_rankOf_81 : decode mb_M_rankOf 81 = .ok (.iload 10, 2) := by decide +kernel
theorem dc_M_rankOf_83 : decode mb_M_rankOf 83 = .ok (.ifCond .eq 10, 3) := by decide +kernel
theorem dc_M_rankOf_86 : decode mb_M_rankOf 86 = .ok (.iload 4, 2) := by decide +kernel
theorem dc_M_rankOf_88 : decode mb_M_rankOf 88 = .ok (.iconst 1, 1) := by decide +kernel
theorem dc_M_rankOf_89 : decode mb_M_rankOf 89 = .ok (.iadd, 1) := by decide +kernel
theorem dc_M_rankOf_90 : decode mb_M_rankOf 90 = .ok (.goto 5, 3) := by decide +kernel
theorem dc_M_rankOf_93 : decode mb_M_rankOf 93 = .ok (.iload 4, 2) := by decide +kernel
theorem dc_M_rankOf_95 : decode mb_M_rankOf 95 = .ok (.istore 4, 2) := by decide +kernel
theorem dc_M_rankOf_97 : decode mb_M_rankOf 97 = .ok (.iinc 7 1, 3) := by decide +kernel
theorem dc_M_rankOf_100 : decode mb_M_rankOf 100 = .ok (.goto (-80), 3) := by decide +kernel
theorem dc_M_rankOf_103 : decode mb_M_rankOf 103 = .ok (.iload 4, 2) := by decide +kernel
theorem dc_M_rankOf_105 : decode mb_M_rankOf 105 = .ok (.ireturn, 1) := by decide +kernel
theorem dc_M_single_0 : decode mb_M_single 0 = .ok (.aload_n 0, 1) := by decide +kernel
theorem dc_M_single_1 : decode mb_M_single 1 = .ok (.iload_n 1, 1) := by decide +kernel
theorem dc_M_single_2 : decode mb_M_single 2 = .ok (.invokevirtual 56, 3) := by decide +kernel
theorem dc_M_single_5 : decode mb_M_single 5 = .ok (.ifCond .ne 11, 3) := by decide +kernel
theorem dc_M_single_8 : decode mb_M_single 8 = .ok (.aload_n 0, 1) := by decide +kernel
theorem dc_M_single_9 : decode mb_M_single 9 = .ok (.iload_n 2, 1) := by decide +kernel
theorem dc_M_single_10 : decode mb_M_single 10 = .ok (.invokevirtual 81, 3) := by decide +kernel
theorem dc_M_single_13 : decode mb_M_single 13 = .ok (.ifCond .eq 5, 3) := by decide +kernel
theorem dc_M_single_16 : decode mb_M_single 16 = .ok (.iconst 0, 1) := by decide +kernel
theorem dc_M_single_17 : decode mb_M_single 17 = .ok (.ireturn, 1) := by decide +kernel
theorem dc_M_single_18 : decode mb_M_single 18 = .ok (.aload_n 0, 1) := by decide +kernel
theorem dc_M_single_19 : decode mb_M_single 19 = .ok (.aload_n 0, 1) := by decide +kernel
theorem dc_M_single_20 : decode mb_M_single 20 = .ok (.iload_n 1, 1) := by decide +kernel
theorem dc_M_single_21 : decode mb_M_single 21 = .ok (.iload_n 2, 1) := by decide +kernel
theorem dc_M_single_22 : decode mb_M_single 22 = .ok (.invokevirtual 95, 3) := by decide +kernel
theorem dc_M_single_25 : decode mb_M_single 25 = .ok (.ifCond .eq 7, 3) := by decide +kernel
theorem dc_M_single_28 : decode mb_M_single 28 = .ok (.iconst 0, 1) := by decide +kernel
theorem dc_M_single_29 : decode mb_M_single 29 = .ok (.goto 4, 3) := by decide +kernel
theorem dc_M_single_32 : decode mb_M_single 32 = .ok (.iconst 3, 1) := by decide +kernel
theorem dc_M_single_33 : decode mb_M_single 33 = .ok (.putfield 29, 3) := by decide +kernel
theorem dc_M_single_36 : decode mb_M_single 36 = .ok (.aload_n 0, 1) := by decide +kernel
theorem dc_M_single_37 : decode mb_M_single 37 = .ok (.getfield 29, 3) := by decide +kernel
theorem dc_M_single_40 : decode mb_M_single 40 = .ok (.ifCond .le 5, 3) := by decide +kernel
theorem dc_M_single_43 : decode mb_M_single 43 = .ok (.iconst 0, 1) := by decide +kernel
theorem dc_M_single_44 : decode mb_M_single 44 = .ok (.ireturn, 1) := by decide +kernel
theorem dc_M_single_45 : decode mb_M_single 45 = .ok (.iconst 0, 1) := by decide +kernel
theorem dc_M_single_46 : decode mb_M_single 46 = .ok (.istore_n 3, 1) := by decide +kernel
theorem dc_M_single_47 : decode mb_M_single 47 = .ok (.iconst 0, 1) := by decide +kernel
theorem dc_M_single_48 : decode mb_M_single 48 = .ok (.istore 4, 2) := by decide +kernel
theorem dc_M_single_50 : decode mb_M_single 50 = .ok (.iload 4, 2) := by decide +kernel
theorem dc_M_single_52 : decode mb_M_single 52 = .ok (.aload_n 0, 1) := by decide +kernel
theorem dc_M_single_53 : decode mb_M_single 53 = .ok (.getfield 17, 3) := by decide +kernel
theorem dc_M_single_56 : decode mb_M_single 56 = .ok (.iload_n 1, 1) := by decide +kernel
theorem dc_M_single_57 : decode mb_M_single 57 = .ok (.iaload, 1) := by decide +kernel
theorem dc_M_single_58 : decode mb_M_single 58 = .ok (.if_icmp .ge 92, 3) := by decide +kernel
theorem dc_M_single_61 : decode mb_M_single 61 = .ok (.sipush 1024, 3) := by decide +kernel
theorem dc_M_single_64 : decode mb_M_single 64 = .ok (.iload_n 1, 1) := by decide +kernel
theorem dc_M_single_65 : decode mb_M_single 65 = .ok (.imul, 1) := by decide +kernel
theorem dc_M_single_66 : decode mb_M_single 66 = .ok (.iload 4, 2) := by decide +kernel
theorem dc_M_single_68 : decode mb_M_single 68 = .ok (.iadd, 1) := by decide +kernel
theorem dc_M_single_69 : decode mb_M_single 69 = .ok (.istore 5, 2) := by decide +kernel
theorem dc_M_single_71 : decode mb_M_single 71 = .ok (.iload_n 3, 1) := by decide +kernel
theorem dc_M_single_72 : decode mb_M_single 72 = .ok (.ifCond .eq 31, 3) := by decide +kernel
theorem dc_M_single_75 : decode mb_M_single 75 = .ok (.iload_n 2, 1) := by decide +kernel
theorem dc_M_single_76 : decode mb_M_single 76 = .ok (.aload_n 0, 1) := by decide +kernel
theorem dc_M_single_77 : decode mb_M_single 77 = .ok (.getfield 7, 3) := by decide +kernel
theorem dc_M_single_80 : decode mb_M_single 80 = .ok (.iload 5, 2) := by decide +kernel
theorem dc_M_single_82 : decode mb_M_single 82 = .ok (.laload, 1) := by decide +kernel
theorem dc_M_single_83 : decode mb_M_single 83 = .ok (.aload_n 0, 1) := by decide +kernel
theorem dc_M_single_84 : decode mb_M_single 84 = .ok (.getfield 7, 3) := by decide +kernel
theorem dc_M_single_87 : decode mb_M_single 87 = .ok (.sipush 1024, 3) := by decide +kernel
theorem dc_M_single_90 : decode mb_M_single 90 = .ok (.iload_n 1, 1) := by decide +kernel
theorem dc_M_single_91 : decode mb_M_single 91 = .ok (.imul, 1) := by decide +kernel
theorem dc_M_single_92 : decode mb_M_single 92 = .ok (.iload_n 3, 1) := by decide +kernel
theorem dc_M_single_93 : decode mb_M_single 93 = .ok (.iadd, 1) := by decide +kernel
theorem dc_M_single_94 : decode mb_M_single 94 = .ok (.iconst 1, 1) := by decide +kernel
theorem dc_M_single_95 : decode mb_M_single 95 = .ok (.isub, 1) := by decide +kernel
theorem dc_M_single_96 : decode mb_M_single 96 = .ok (.laload, 1) := by decide +kernel
theorem dc_M_single_97 : decode mb_M_single 97 = .ok (.invokestatic 102, 3) := by decide +kernel
theorem dc_M_single_100 : decode mb_M_single 100 = .ok (.ifCond .ne 44, 3) := by decide +kernel
theorem dc_M_single_103 : decode mb_M_single 103 = .ok (.aload_n 0, 1) := by decide +kernel
theorem dc_M_single_104 : decode mb_M_single 104 = .ok (.getfield 7, 3) := by decide +kernel
theorem dc_M_single_107 : decode mb_M_single 107 = .ok (.sipush 1024, 3) := by decide +kernel
theorem dc_M_single_110 : decode mb_M_single 110 = .ok (.iload_n 1, 1) := by decide +kernel
theorem dc_M_single_111 : decode mb_M_single 111 = .ok (.imul, 1) := by decide +kernel
theorem dc_M_single_112 : decode mb_M_single 112 = .ok (.iload_n 3, 1) := by decide +kernel
theorem dc_M_single_113 : decode mb_M_single 113 = .ok (.iadd, 1) := by decide +kernel
theorem dc_M_single_114 : decode mb_M_single 114 = .ok (.aload_n 0, 1) := by decide +kernel
theorem dc_M_single_115 : decode mb_M_single 115 = .ok (.getfield 7, 3) := by decide +kernel
theorem dc_M_single_118 : decode mb_M_single 118 = .ok (.iload 5, 2) := by decide +kernel
theorem dc_M_single_120 : decode mb_M_single 120 = .ok (.laload, 1) := by decide +kernel
theorem dc_M_single_121 : decode mb_M_single 121 = .ok (.lastore, 1) := by decide +kernel
theorem dc_M_single_122 : decode mb_M_single 122 = .ok (.aload_n 0, 1) := by decide +kernel
theorem dc_M_single_123 : decode mb_M_single 123 = .ok (.getfield 13, 3) := by decide +kernel
theorem dc_M_single_126 : decode mb_M_single 126 = .ok (.sipush 1024, 3) := by decide +kernel
theorem dc_M_single_129 : decode mb_M_single 129 = .ok (.iload_n 1, 1) := by decide +kernel
theorem dc_M_single_130 : decode mb_M_single 130 = .ok (.imul, 1) := by decide +kernel
theorem dc_M_single_131 : decode mb_M_single 131 = .ok (.iload_n 3, 1) := by decide +kernel
theorem dc_M_single_132 : decode mb_M_single 132 = .ok (.iadd, 1) := by decide +kernel
theorem dc_M_single_133 : decode mb_M_single 133 = .ok (.aload_n 0, 1) := by decide +kernel
theorem dc_M_single_134 : decode mb_M_single 134 = .ok (.getfield 13, 3) := by decide +kernel
theorem dc_M_single_137 : decode mb_M_single 137 = .ok (.iload 5, 2) := by decide +kernel
theorem dc_M_single_139 : decode mb_M_single 139 = .ok (.iaload, 1) := by decide +kernel
theorem dc_M_single_140 : decode mb_M_single 140 = .ok (.iastore, 1) := by decide +kernel
theorem dc_M_single_141 : decode mb_M_single 141 = .ok (.iinc 3 1, 3) := by decide +kernel
theorem dc_M_single_144 : decode mb_M_single 144 = .ok (.iinc 4 1, 3) := by decide +kernel
theorem dc_M_single_147 : decode mb_M_single 147 = .ok (.goto (-97), 3) := by decide +kernel
theorem dc_M_single_150 : decode mb_M_single 150 = .ok (.aload_n 0, 1) := by decide +kernel
theorem dc_M_single_151 : decode mb_M_single 151 = .ok (.getfield 17, 3) := by decide +kernel
theorem dc_M_single_154 : decode mb_M_single 154 = .ok (.iload_n 1, 1) := by decide +kernel
theorem dc_M_single_155 : decode mb_M_single 155 = .ok (.iload_n 3, 1) := by decide +kernel
theorem dc_M_single_156 : decode mb_M_single 156 = .ok (.iastore, 1) := by decide +kernel
theorem dc_M_single_157 : decode mb_M_single 157 = .ok (.iload_n 3, 1) := by decide +kernel
theorem dc_M_single_158 : decode mb_M_single 158 = .ok (.ireturn, 1) := by decide +kernel
set_option maxHeartbeats 4000000 in
set_option maxRecDepth 100000 in
theorem ct_M_copy (l : Launch) (g : YG) (S : YS) (k n : Nat) (hk : k < 4) (hn : n ≤ 1024) (hc : gI S 27 k = nI n) (q : Nat) (hq : q < 4) : yC l mn_M_copy mb_M_copy 4 none 1 g [.ref (g.ad (24)), .int (nI (k)), .int (nI (q))] S (fun v S' => ∃ (K : Nat → Int64) (T : Nat → Int32), v = none ∧ S' = mK (sI (yx S 0) 27 (upd (gI S 27) q (nI n))) K T ∧ (∀ j, j < n → K (1024 * q + j) = gL S 25 (1024 * k + j) ∧ T (1024 * q + j) = gI S 26 (1024 * k + j)) ∧ (∀ j, j < 1024 * q ∨ 1024 * q + n ≤ j → K j = gL S 25 j ∧ T j = gI S 26 j)) := by
  refine yC_of (by decide) (Nat.le_of_ble_eq_true rfl) ?_
  intro o hl hg hB0 hE
  subst hl
  subst hg
  have hB : yB o mb_M_copy "OrderBenchModel" := hB0
  have hm := hE.1
  show yW o (S) 0 [(0, .ref (o.G.ad (24))), (1, .int (nI (k))), (2, .int (nI (q)))] []
  refine y_aload_n (pc' := 1) hB dc_M_copy_0 rfl rfl 0 rfl ?_
  refine y_iload_n (pc' := 2) hB dc_M_copy_1 rfl rfl 1 rfl ?_
  refine n_if_lt (pc' := 5) (tg := 19) hB dc_M_copy_2 rfl rfl (by omega) ?_
  refine y_iload_n (pc' := 6) hB dc_M_copy_5 rfl rfl 1 rfl ?_
  refine y_iconst (v := nI 3) (pc' := 7) hB dc_M_copy_6 rfl rfl ?_
  refine n_icmp_gt (pc' := 10) (tg := 19) hB dc_M_copy_7 rfl rfl (by omega) (by omega) (fun b1 => ?_) (fun b1 => ?_)
  · omega
  · refine y_iload_n (pc' := 11) hB dc_M_copy_10 rfl rfl 2 rfl ?_
    refine n_if_lt (pc' := 14) (tg := 19) hB dc_M_copy_11 rfl rfl (by omega) ?_
    refine y_iload_n (pc' := 15) hB dc_M_copy_14 rfl rfl 2 rfl ?_
    refine y_iconst (v := nI 3) (pc' := 16) hB dc_M_copy_15 rfl rfl ?_
    refine n_icmp_le (pc' := 19) (tg := 23) hB dc_M_copy_16 rfl rfl (by omega) (by omega) (fun b3 => ?_) (fun b3 => ?_)
    · refine y_iconst (v := nI 0) (pc' := 24) hB dc_M_copy_23 rfl rfl ?_
      refine p_M_code (pc' := 27) hB dc_M_copy_24 rfl q_639 ?_
      show yW o (yx S 0) 27 [(0, .ref (o.G.ad (24))), (1, .int (nI (k))), (2, .int (nI (q)))] []
      refine y_aload_n (pc' := 28) hB dc_M_copy_27 rfl rfl 0 rfl ?_
      refine f_M_code (pc' := 31) hB dc_M_copy_28 rfl q_639 ?_
      refine y_topi (y := nI (0)) (yx_c S 0) ?_
      refine n_if_le (pc' := 34) (tg := 35) hB dc_M_copy_31 rfl rfl (by omega) (fun b4 => ?_) (fun b4 => ?_)
      · refine y_aload_n (pc' := 36) hB dc_M_copy_35 rfl rfl 0 rfl ?_
        refine f_M_sizes (pc' := 39) hB dc_M_copy_36 rfl q_642 ?_
        refine y_iload_n (pc' := 40) hB dc_M_copy_39 rfl rfl 2 rfl ?_
        refine y_aload_n (pc' := 41) hB dc_M_copy_40 rfl rfl 0 rfl ?_
        refine f_M_sizes (pc' := 44) hB dc_M_copy_41 rfl q_642 ?_
        refine y_iload_n (pc' := 45) hB dc_M_copy_44 rfl rfl 1 rfl ?_
        refine y_iald (c := 27) (n := 4) (j := k) (pc' := 46) hB dc_M_copy_45 rfl (by decide) rfl (by omega) (by decide) ?_
        refine y_topi (y := nI (n)) (hc) ?_
        refine y_iast (c := 27) (n := 4) (j := q) (pc' := 47) hB dc_M_copy_46 rfl (by decide) rfl (by omega) (by decide) ?_
        show yW o (sI (yx S 0) 27 (upd (gI S 27) q (nI n))) 47 [(0, .ref (o.G.ad (24))), (1, .int (nI (k))), (2, .int (nI (q)))] []
        refine y_iconst (v := nI 0) (pc' := 48) hB dc_M_copy_47 rfl rfl ?_
        refine y_istore_n (pc' := 49) (lv' := [(3, .int (nI (0))), (0, .ref (o.G.ad (24))), (1, .int (nI (k))), (2, .int (nI (q)))]) hB hm dc_M_copy_48 rfl rfl (by decide) rfl ?_
        have hu : upd (gI S 27) q (nI n) k = nI n := by unfold upd; split; rfl; exact hc
        have loop : ∀ (d : Nat) (i : Nat) (K : Nat → Int64) (T : Nat → Int32), n - i < d → i ≤ n → (∀ j, j < i → K (1024 * q + j) = gL S 25 (1024 * k + j) ∧ T (1024 * q + j) = gI S 26 (1024 * k + j)) → (∀ j, j < 1024 * q ∨ 1024 * q + i ≤ j → K j = gL S 25 j ∧ T j = gI S 26 j) → yW o (mK (sI (yx S 0) 27 (upd (gI S 27) q (nI n))) K T) 49 [(3, .int (nI (i))), (0, .ref (o.G.ad (24))), (1, .int (nI (k))), (2, .int (nI (q)))] [] := by
          intro d
          induction d with
          | zero => intro i K T hd; omega
          | succ d ih =>
            intro i K T hd h1 h2 h3
            refine y_iload_n (pc' := 50) hB dc_M_copy_49 rfl rfl 0 rfl ?_
            refine y_aload_n (pc' := 51) hB dc_M_copy_50 rfl rfl 1 rfl ?_
            refine f_M_sizes (pc' := 54) hB dc_M_copy_51 rfl q_642 ?_
            refine y_iload_n (pc' := 55) hB dc_M_copy_54 rfl rfl 2 rfl ?_
            refine y_iald (c := 27) (n := 4) (j := k) (pc' := 56) hB dc_M_copy_55 rfl (by decide) rfl (by omega) (by decide) ?_
            refine y_topi (y := nI (n)) (by rw [mK_I _ _ _ (by decide), gI_same]; exact hu) ?_
            refine n_icmp_ge (pc' := 59) (tg := 113) hB dc_M_copy_56 rfl rfl (by omega) (by omega) (fun b5 => ?_) (fun b5 => ?_)
            · have e : i = n := by omega
              subst e
              exact y_vret hB hE dc_M_copy_113 ⟨K, T, rfl, rfl, h2, h3⟩
            · have hz := h3 (1024 * k + i) (by omega)
              refine y_aload_n (pc' := 60) hB dc_M_copy_59 rfl rfl 1 rfl ?_
              refine f_M_keys (pc' := 63) hB dc_M_copy_60 rfl q_640 ?_
              refine y_sipush (v := nI 1024) (pc' := 66) hB dc_M_copy_63 rfl (by decide) ?_
              refine y_iload_n (pc' := 67) hB dc_M_copy_66 rfl rfl 3 rfl ?_
              refine n_imul (x := 1024) (y := q) (pc' := 68) hB dc_M_copy_67 rfl ?_
              refine y_iload_n (pc' := 69) hB dc_M_copy_68 rfl rfl 0 rfl ?_
              refine n_iadd (x := 1024 * q) (y := i) (pc' := 70) hB dc_M_copy_69 rfl ?_
              refine y_aload_n (pc' := 71) hB dc_M_copy_70 rfl rfl 1 rfl ?_
              refine f_M_keys (pc' := 74) hB dc_M_copy_71 rfl q_640 ?_
              refine y_sipush (v := nI 1024) (pc' := 77) hB dc_M_copy_74 rfl (by decide) ?_
              refine y_iload_n (pc' := 78) hB dc_M_copy_77 rfl rfl 2 rfl ?_
              refine n_imul (x := 1024) (y := k) (pc' := 79) hB dc_M_copy_78 rfl ?_
              refine y_iload_n (pc' := 80) hB dc_M_copy_79 rfl rfl 0 rfl ?_
              refine n_iadd (x := 1024 * k) (y := i) (pc' := 81) hB dc_M_copy_80 rfl ?_
              refine y_lald (c := 25) (n := 4096) (j := (1024 * k) + i) (pc' := 82) hB dc_M_copy_81 rfl (by decide) rfl (by omega) (by decide) ?_
              refine y_topl (y := gL S 25 (1024 * k + i)) (by rw [mK_K]; exact hz.1) ?_
              refine y_last (c := 25) (n := 4096) (j := (1024 * q) + i) (pc' := 83) hB dc_M_copy_82 rfl (by decide) rfl (by omega) (by decide) ?_
              refine y_aload_n (pc' := 84) hB dc_M_copy_83 rfl rfl 1 rfl ?_
              refine f_M_tags (pc' := 87) hB dc_M_copy_84 rfl q_641 ?_
              refine y_sipush (v := nI 1024) (pc' := 90) hB dc_M_copy_87 rfl (by decide) ?_
              refine y_iload_n (pc' := 91) hB dc_M_copy_90 rfl rfl 3 rfl ?_
              refine n_imul (x := 1024) (y := q) (pc' := 92) hB dc_M_copy_91 rfl ?_
              refine y_iload_n (pc' := 93) hB dc_M_copy_92 rfl rfl 0 rfl ?_
              refine n_iadd (x := 1024 * q) (y := i) (pc' := 94) hB dc_M_copy_93 rfl ?_
              refine y_aload_n (pc' := 95) hB dc_M_copy_94 rfl rfl 1 rfl ?_
              refine f_M_tags (pc' := 98) hB dc_M_copy_95 rfl q_641 ?_
              refine y_sipush (v := nI 1024) (pc' := 101) hB dc_M_copy_98 rfl (by decide) ?_
              refine y_iload_n (pc' := 102) hB dc_M_copy_101 rfl rfl 2 rfl ?_
              refine n_imul (x := 1024) (y := k) (pc' := 103) hB dc_M_copy_102 rfl ?_
              refine y_iload_n (pc' := 104) hB dc_M_copy_103 rfl rfl 0 rfl ?_
              refine n_iadd (x := 1024 * k) (y := i) (pc' := 105) hB dc_M_copy_104 rfl ?_
              refine y_iald (c := 26) (n := 4096) (j := (1024 * k) + i) (pc' := 106) hB dc_M_copy_105 rfl (by decide) rfl (by omega) (by decide) ?_
              refine y_topi (y := gI S 26 (1024 * k + i)) (by rw [gI_sL, mK_T]; exact hz.2) ?_
              refine y_iast (c := 26) (n := 4096) (j := (1024 * q) + i) (pc' := 107) hB dc_M_copy_106 rfl (by decide) rfl (by omega) (by decide) ?_
              rw [gI_sL, mK_K, mK_T, mK_put]
              refine n_inc (q := 0) (z := 1) (pc' := 110) (lv' := [(3, .int (nI (i + 1))), (0, .ref (o.G.ad (24))), (1, .int (nI (k))), (2, .int (nI (q)))]) hB hm dc_M_copy_107 rfl rfl (by decide) rfl ?_
              refine y_goto (tg := 49) hB dc_M_copy_110 rfl ?_
              refine y_sub [0, 1, 2, 3] rfl ?_
              refine ih (i + 1) _ _ (by omega) b5 (fun j hj => ?_) (fun j hj => ?_)
              · unfold vp_updL upd
                by_cases e : j = i
                · rw [if_pos (by omega), if_pos (by omega), e]; exact ⟨rfl, rfl⟩
                · rw [if_neg (by omega), if_neg (by omega)]; exact h2 j (by omega)
              · unfold vp_updL upd
                rw [if_neg (by omega), if_neg (by omega)]; exact h3 j (by omega)
        have h0 := loop (n + 1) 0 (gL (sI (yx S 0) 27 (upd (gI S 27) q (nI n))) 25) (gI (sI (yx S 0) 27 (upd (gI S 27) q (nI n))) 26) (by omega) (by omega) (fun j hj => by omega) (fun j _ => ⟨rfl, rfl⟩)
        rw [mK_self] at h0
        exact h0
      · omega
    · omega
/-- comes before the one at place i: by rank, then by place -/
def zrb (od : Nat) (F : Nat → Int64 × Int32) (i : Nat) : Nat → Bool := fun j => decide (zr od (F j).1 < zr od (F i).1 ∨ (j < i ∧ ¬ zr od (F i).1 < zr od (F j).1))
set_option maxHeartbeats 4000000 in
set_option maxRecDepth 100000 in
theorem ct_M_rankOf (l : Launch) (g : YG) (S : YS) (k n : Nat) (hk : k < 4) (hn : n ≤ 1024) (hc : gI S 27 k = nI n) (od : Nat) (ho : od < 8) (i : Nat) (hi : i < n) : yC l mn_M_rankOf mb_M_rankOf 11 (some .int) 2 g [.ref (g.ad (24)), .int (nI (k)), .int (nI (od)), .int (nI (i))] S (fun v S' => v = some (.int (nI (zfn (zrb od (ze4 S k) i) n))) ∧ S' = S) := by
  refine yC_of (by decide) (Nat.le_of_ble_eq_true rfl) ?_
  intro o hl hg hB0 hE
  subst hl
  subst hg
  have hB : yB o mb_M_rankOf "OrderBenchModel" := hB0
  have hm := hE.1
  show yW o (S) 0 [(0, .ref (o.G.ad (24))), (1, .int (nI (k))), (2, .int (nI (od))), (3, .int (nI (i)))] []
  refine y_iconst (v := nI 0) (pc' := 1) hB dc_M_rankOf_0 rfl rfl ?_
  refine y_istore (pc' := 3) (lv' := [(4, .int (nI (0))), (0, .ref (o.G.ad (24))), (1, .int (nI (k))), (2, .int (nI (od))), (3, .int (nI (i)))]) hB hm dc_M_rankOf_1 rfl (by decide) rfl ?_
  refine y_aload_n (pc' := 4) hB dc_M_rankOf_3 rfl rfl 1 rfl ?_
  refine f_M_keys (pc' := 7) hB dc_M_rankOf_4 rfl q_640 ?_
  refine y_sipush (v := nI 1024) (pc' := 10) hB dc_M_rankOf_7 rfl (by decide) ?_
  refine y_iload_n (pc' := 11) hB dc_M_rankOf_10 rfl rfl 2 rfl ?_
  refine n_imul (x := 1024) (y := k) (pc' := 12) hB dc_M_rankOf_11 rfl ?_
  refine y_iload_n (pc' := 13) hB dc_M_rankOf_12 rfl rfl 4 rfl ?_
  refine n_iadd (x := 1024 * k) (y := i) (pc' := 14) hB dc_M_rankOf_13 rfl ?_
  refine y_lald (c := 25) (n := 4096) (j := (1024 * k) + i) (pc' := 15) hB dc_M_rankOf_14 rfl (by decide) rfl (by omega) (by decide) ?_
  refine y_topl (y := ((ze4 S k) i).1) (rfl) ?_
  refine y_lstore (pc' := 17) (lv' := [(5, .long (((ze4 S k) i).1)), (4, .int (nI (0))), (0, .ref (o.G.ad (24))), (1, .int (nI (k))), (2, .int (nI (od))), (3, .int (nI (i)))]) hB hm dc_M_rankOf_15 rfl (by decide) rfl ?_
  refine y_iconst (v := nI 0) (pc' := 18) hB dc_M_rankOf_17 rfl rfl ?_
  refine y_istore (pc' := 20) (lv' := [(7, .int (nI (0))), (5, .long (((ze4 S k) i).1)), (4, .int (nI (0))), (0, .ref (o.G.ad (24))), (1, .int (nI (k))), (2, .int (nI (od))), (3, .int (nI (i)))]) hB hm dc_M_rankOf_18 rfl (by decide) rfl ?_
  have loop : ∀ (d : Nat) (j : Nat), n - j < d → j ≤ n → yW o (S) 20 [(7, .int (nI (j))), (4, .int (nI (zfn (zrb od (ze4 S k) i) j))), (5, .long (((ze4 S k) i).1)), (0, .ref (o.G.ad (24))), (1, .int (nI (k))), (2, .int (nI (od))), (3, .int (nI (i)))] [] := by
    intro d
    induction d with
    | zero => intro j hd; omega
    | succ d ih =>
      intro j hd h1
      refine y_iload (pc' := 22) hB dc_M_rankOf_20 rfl 0 rfl ?_
      refine y_aload_n (pc' := 23) hB dc_M_rankOf_22 rfl rfl 3 rfl ?_
      refine f_M_sizes (pc' := 26) hB dc_M_rankOf_23 rfl q_642 ?_
      refine y_iload_n (pc' := 27) hB dc_M_rankOf_26 rfl rfl 4 rfl ?_
      refine y_iald (c := 27) (n := 4) (j := k) (pc' := 28) hB dc_M_rankOf_27 rfl (by decide) rfl (by omega) (by decide) ?_
      refine y_topi (y := nI (n)) (hc) ?_
      refine n_icmp_ge (pc' := 31) (tg := 103) hB dc_M_rankOf_28 rfl rfl (by omega) (by omega) (fun b1 => ?_) (fun b1 => ?_)
      · have e : j = n := by omega
        subst e
        refine y_iload (pc' := 105) hB dc_M_rankOf_103 rfl 1 rfl ?_
        exact y_iret hB hE dc_M_rankOf_105 ⟨rfl, rfl⟩
      · refine y_aload_n (pc' := 32) hB dc_M_rankOf_31 rfl rfl 3 rfl ?_
        refine f_M_keys (pc' := 35) hB dc_M_rankOf_32 rfl q_640 ?_
        refine y_sipush (v := nI 1024) (pc' := 38) hB dc_M_rankOf_35 rfl (by decide) ?_
        refine y_iload_n (pc' := 39) hB dc_M_rankOf_38 rfl rfl 4 rfl ?_
        refine n_imul (x := 1024) (y := k) (pc' := 40) hB dc_M_rankOf_39 rfl ?_
        refine y_iload (pc' := 42) hB dc_M_rankOf_40 rfl 0 rfl ?_
        refine n_iadd (x := 1024 * k) (y := j) (pc' := 43) hB dc_M_rankOf_42 rfl ?_
        refine y_lald (c := 25) (n := 4096) (j := (1024 * k) + j) (pc' := 44) hB dc_M_rankOf_43 rfl (by decide) rfl (by omega) (by decide) ?_
        refine y_topl (y := ((ze4 S k) j).1) (rfl) ?_
        refine y_lstore (pc' := 46) (lv' := [(8, .long (((ze4 S k) j).1)), (7, .int (nI (j))), (4, .int (nI (zfn (zrb od (ze4 S k) i) j))), (5, .long (((ze4 S k) i).1)), (0, .ref (o.G.ad (24))), (1, .int (nI (k))), (2, .int (nI (od))), (3, .int (nI (i)))]) hB hm dc_M_rankOf_44 rfl (by decide) rfl ?_
        have yes : zrb od (ze4 S k) i j = true → yW o (S) 74 [(8, .long (((ze4 S k) j).1)), (7, .int (nI (j))), (4, .int (nI (zfn (zrb od (ze4 S k) i) j))), (5, .long (((ze4 S k) i).1)), (0, .ref (o.G.ad (24))), (1, .int (nI (k))), (2, .int (nI (od))), (3, .int (nI (i)))] [] := by
          intro z
          refine y_iconst (v := nI 1) (pc' := 75) hB dc_M_rankOf_74 rfl rfl ?_
          refine y_goto (tg := 79) hB dc_M_rankOf_75 rfl ?_
          refine y_istore (pc' := 81) (lv' := [(10, .int (nI (1))), (8, .long (((ze4 S k) j).1)), (7, .int (nI (j))), (4, .int (nI (zfn (zrb od (ze4 S k) i) j))), (5, .long (((ze4 S k) i).1)), (0, .ref (o.G.ad (24))), (1, .int (nI (k))), (2, .int (nI (od))), (3, .int (nI (i)))]) hB hm dc_M_rankOf_79 rfl (by decide) rfl ?_
          refine y_iload (pc' := 83) hB dc_M_rankOf_81 rfl 0 rfl ?_
          refine n_if_eq (pc' := 86) (tg := 93) hB dc_M_rankOf_83 rfl rfl (by omega) (fun b9 => ?_) (fun b9 => ?_)
          · exact absurd b9 (by decide)
          · refine y_iload (pc' := 88) hB dc_M_rankOf_86 rfl 3 rfl ?_
            refine y_iconst (v := nI 1) (pc' := 89) hB dc_M_rankOf_88 rfl rfl ?_
            refine n_iadd (x := zfn (zrb od (ze4 S k) i) j) (y := 1) (pc' := 90) hB dc_M_rankOf_89 rfl ?_
            refine y_goto (tg := 95) hB dc_M_rankOf_90 rfl ?_
            refine y_istore (pc' := 97) (lv' := [(4, .int (nI ((zfn (zrb od (ze4 S k) i) j) + 1))), (10, .int (nI (1))), (8, .long (((ze4 S k) j).1)), (7, .int (nI (j))), (5, .long (((ze4 S k) i).1)), (0, .ref (o.G.ad (24))), (1, .int (nI (k))), (2, .int (nI (od))), (3, .int (nI (i)))]) hB hm dc_M_rankOf_95 rfl (by decide) rfl ?_
            refine n_inc (q := 3) (z := 1) (pc' := 100) (lv' := [(7, .int (nI (j + 1))), (4, .int (nI ((zfn (zrb od (ze4 S k) i) j) + 1))), (10, .int (nI (1))), (8, .long (((ze4 S k) j).1)), (5, .long (((ze4 S k) i).1)), (0, .ref (o.G.ad (24))), (1, .int (nI (k))), (2, .int (nI (od))), (3, .int (nI (i)))]) hB hm dc_M_rankOf_97 rfl rfl (by decide) rfl ?_
            refine y_goto (tg := 20) hB dc_M_rankOf_100 rfl ?_
            refine y_sub [0, 1, 4, 5, 6, 7, 8] rfl ?_
            have e : zfn (zrb od (ze4 S k) i) (j + 1) = zfn (zrb od (ze4 S k) i) j + (if zrb od (ze4 S k) i j then 1 else 0) := rfl
            rw [z] at e
            have hz := ih (j + 1) (by omega) b1
            rw [e] at hz
            exact hz
        have no : zrb od (ze4 S k) i j = false → yW o (S) 78 [(8, .long (((ze4 S k) j).1)), (7, .int (nI (j))), (4, .int (nI (zfn (zrb od (ze4 S k) i) j))), (5, .long (((ze4 S k) i).1)), (0, .ref (o.G.ad (24))), (1, .int (nI (k))), (2, .int (nI (od))), (3, .int (nI (i)))] [] := by
          intro z
          refine y_iconst (v := nI 0) (pc' := 79) hB dc_M_rankOf_78 rfl rfl ?_
          refine y_istore (pc' := 81) (lv' := [(10, .int (nI (0))), (8, .long (((ze4 S k) j).1)), (7, .int (nI (j))), (4, .int (nI (zfn (zrb od (ze4 S k) i) j))), (5, .long (((ze4 S k) i).1)), (0, .ref (o.G.ad (24))), (1, .int (nI (k))), (2, .int (nI (od))), (3, .int (nI (i)))]) hB hm dc_M_rankOf_79 rfl (by decide) rfl ?_
          refine y_iload (pc' := 83) hB dc_M_rankOf_81 rfl 0 rfl ?_
          refine n_if_eq (pc' := 86) (tg := 93) hB dc_M_rankOf_83 rfl rfl (by omega) (fun b9 => ?_) (fun b9 => ?_)
          · refine y_iload (pc' := 95) hB dc_M_rankOf_93 rfl 3 rfl ?_
            refine y_istore (pc' := 97) (lv' := [(4, .int (nI (zfn (zrb od (ze4 S k) i) j))), (10, .int (nI (0))), (8, .long (((ze4 S k) j).1)), (7, .int (nI (j))), (5, .long (((ze4 S k) i).1)), (0, .ref (o.G.ad (24))), (1, .int (nI (k))), (2, .int (nI (od))), (3, .int (nI (i)))]) hB hm dc_M_rankOf_95 rfl (by decide) rfl ?_
            refine n_inc (q := 3) (z := 1) (pc' := 100) (lv' := [(7, .int (nI (j + 1))), (4, .int (nI (zfn (zrb od (ze4 S k) i) j))), (10, .int (nI (0))), (8, .long (((ze4 S k) j).1)), (5, .long (((ze4 S k) i).1)), (0, .ref (o.G.ad (24))), (1, .int (nI (k))), (2, .int (nI (od))), (3, .int (nI (i)))]) hB hm dc_M_rankOf_97 rfl rfl (by decide) rfl ?_
            refine y_goto (tg := 20) hB dc_M_rankOf_100 rfl ?_
            refine y_sub [0, 1, 4, 5, 6, 7, 8] rfl ?_
            have e : zfn (zrb od (ze4 S k) i) (j + 1) = zfn (zrb od (ze4 S k) i) j + (if zrb od (ze4 S k) i j then 1 else 0) := rfl
            rw [z] at e
            have hz := ih (j + 1) (by omega) b1
            rw [e] at hz
            exact hz
          · exact absurd b9 (by decide)
        refine y_iload_n (pc' := 47) hB dc_M_rankOf_46 rfl rfl 6 rfl ?_
        refine y_lload (pc' := 49) hB dc_M_rankOf_47 rfl 0 rfl ?_
        refine y_lload (pc' := 51) hB dc_M_rankOf_49 rfl 3 rfl ?_
        refine y_callS (As := [.int (nI (od)), .long (((ze4 S k) j).1), .long (((ze4 S k) i).1)]) (rest := []) (pc' := 54) hB hE (ct_M_isBefore o.l o.G S od ho ((ze4 S k) j).1 ((ze4 S k) i).1) mm_M_isBefore q_740 q_741 dc_M_rankOf_51 rfl (by decide) rfl rfl (Nat.le_of_ble_eq_true rfl) (fun v S' hpost => ?_)
        obtain ⟨rfl, hSS⟩ := hpost
        rw [hSS]
        clear hSS S'
        show yW o (S) 54 [(8, .long (((ze4 S k) j).1)), (7, .int (nI (j))), (4, .int (nI (zfn (zrb od (ze4 S k) i) j))), (5, .long (((ze4 S k) i).1)), (0, .ref (o.G.ad (24))), (1, .int (nI (k))), (2, .int (nI (od))), (3, .int (nI (i)))] [.int (yb (decide (zr od ((ze4 S k) j).1 < zr od ((ze4 S k) i).1)))]
        refine y_if_ne (x := yb (decide (zr od ((ze4 S k) j).1 < zr od ((ze4 S k) i).1))) (pc' := 57) (tg := 74) hB dc_M_rankOf_54 rfl rfl (fun b3 => ?_) (fun b3 => ?_)
        · rw [yb_n, decide_eq_true_eq] at b3
          refine y_sub [0, 1, 2, 3, 4, 5, 6, 7] rfl ?_
          exact yes (decide_eq_true (Or.inl b3))
        · rw [yb_0, decide_eq_false_iff_not] at b3
          refine y_iload (pc' := 59) hB dc_M_rankOf_57 rfl 1 rfl ?_
          refine y_iload_n (pc' := 60) hB dc_M_rankOf_59 rfl rfl 7 rfl ?_
          refine n_icmp_ge (pc' := 63) (tg := 78) hB dc_M_rankOf_60 rfl rfl (by omega) (by omega) (fun b4 => ?_) (fun b4 => ?_)
          · refine y_sub [0, 1, 2, 3, 4, 5, 6, 7] rfl ?_
            exact no (decide_eq_false (fun z => by rcases z with z | z; exact b3 z; omega))
          · refine y_iload_n (pc' := 64) hB dc_M_rankOf_63 rfl rfl 6 rfl ?_
            refine y_lload (pc' := 66) hB dc_M_rankOf_64 rfl 3 rfl ?_
            refine y_lload (pc' := 68) hB dc_M_rankOf_66 rfl 0 rfl ?_
            refine y_callS (As := [.int (nI (od)), .long (((ze4 S k) i).1), .long (((ze4 S k) j).1)]) (rest := []) (pc' := 71) hB hE (ct_M_isBefore o.l o.G S od ho ((ze4 S k) i).1 ((ze4 S k) j).1) mm_M_isBefore q_740 q_741 dc_M_rankOf_68 rfl (by decide) rfl rfl (Nat.le_of_ble_eq_true rfl) (fun v S' hpost => ?_)
            obtain ⟨rfl, hSS⟩ := hpost
            rw [hSS]
            clear hSS S'
            show yW o (S) 71 [(8, .long (((ze4 S k) j).1)), (7, .int (nI (j))), (4, .int (nI (zfn (zrb od (ze4 S k) i) j))), (5, .long (((ze4 S k) i).1)), (0, .ref (o.G.ad (24))), (1, .int (nI (k))), (2, .int (nI (od))), (3, .int (nI (i)))] [.int (yb (decide (zr od ((ze4 S k) i).1 < zr od ((ze4 S k) j).1)))]
            refine y_if_ne (x := yb (decide (zr od ((ze4 S k) i).1 < zr od ((ze4 S k) j).1))) (pc' := 74) (tg := 78) hB dc_M_rankOf_71 rfl rfl (fun b5 => ?_) (fun b5 => ?_)
            · rw [yb_n, decide_eq_true_eq] at b5
              refine y_sub [0, 1, 2, 3, 4, 5, 6, 7] rfl ?_
              exact no (decide_eq_false (fun z => by rcases z with z | z; exact b3 z; exact z.2 b5))
            · rw [yb_0, decide_eq_false_iff_not] at b5
              refine y_sub [0, 1, 2, 3, 4, 5, 6, 7] rfl ?_
              exact yes (decide_eq_true (Or.inr ⟨b4, b5⟩))
  refine y_sub [0, 2, 1, 3, 4, 5, 6] rfl ?_
  exact loop (n + 1) 0 (by omega) (by omega)
set_option maxHeartbeats 4000000 in
set_option maxRecDepth 100000 in
theorem ct_M_single (l : Launch) (g : YG) (S : YS) (k n : Nat) (hk : k < 4) (hn : n ≤ 1024) (hc : gI S 27 k = nI n) (od : Nat) (ho : od < 8) (hs : zo (zq od false) (zs (ze4 S k) 0 n)) : yC l mn_M_single mb_M_single 6 (some .int) 4 g [.ref (g.ad (24)), .int (nI (k)), .int (nI (od))] S (fun v S' => ∃ (m : Nat) (K : Nat → Int64) (T : Nat → Int32), v = some (.int (nI m)) ∧ S' = sI (mK (yx S 0) K T) 27 (upd (gI S 27) k (nI m)) ∧ m ≤ n ∧ zs (fun j => (K (1024 * k + j), T (1024 * k + j))) 0 m = zsl (zq od false) (ze4 S k) n ∧ (∀ j, j < 1024 * k ∨ 1024 * k + n ≤ j → K j = gL S 25 j ∧ T j = gI S 26 j)) := by
  refine yC_of (by decide) (Nat.le_of_ble_eq_true rfl) ?_
  intro o hl hg hB0 hE
  subst hl
  subst hg
  have hB : yB o mb_M_single "OrderBenchModel" := hB0
  have hm := hE.1
  show yW o (S) 0 [(0, .ref (o.G.ad (24))), (1, .int (nI (k))), (2, .int (nI (od)))] []
  refine y_aload_n (pc' := 1) hB dc_M_single_0 rfl rfl 0 rfl ?_
  refine y_iload_n (pc' := 2) hB dc_M_single_1 rfl rfl 1 rfl ?_
  refine y_callV (c := 24) (ci := 4) (As := [.int (nI (k))]) (rest := []) (pc' := 5) hB hE (ct_M_noRow o.l o.G S (nI k) (zgr_of hk)) mm_M_noRow q_672 q_674 qs_12 (by decide) rfl rfl dc_M_single_2 rfl (by decide) rfl rfl (Nat.le_of_ble_eq_true rfl) (fun v S' hpost => ?_)
  obtain ⟨rfl, hSS⟩ := hpost
  rw [hSS]
  clear hSS S'
  show yW o (yx S 0) 5 [(0, .ref (o.G.ad (24))), (1, .int (nI (k))), (2, .int (nI (od)))] [.int (0)]
  refine y_if_ne (x := 0) (pc' := 8) (tg := 16) hB dc_M_single_5 rfl rfl (fun b1 => ?_) (fun b1 => ?_)
  · exact absurd rfl b1
  · refine y_aload_n (pc' := 9) hB dc_M_single_8 rfl rfl 0 rfl ?_
    refine y_iload_n (pc' := 10) hB dc_M_single_9 rfl rfl 2 rfl ?_
    refine y_callV (c := 24) (ci := 4) (As := [.int (nI (od))]) (rest := []) (pc' := 13) hB hE (ct_M_noOrder o.l o.G (yx S 0) (nI od) (zgo_of ho)) mm_M_noOrder q_720 q_722 qs_14 (by decide) rfl rfl dc_M_single_10 rfl (by decide) rfl rfl (Nat.le_of_ble_eq_true rfl) (fun v S' hpost => ?_)
    obtain ⟨rfl, hSS⟩ := hpost
    rw [hSS]
    clear hSS S'
    show yW o (yx (yx S 0) 0) 13 [(0, .ref (o.G.ad (24))), (1, .int (nI (k))), (2, .int (nI (od)))] [.int (0)]
    rw [yx_yx]
    refine y_if_eq (x := 0) (pc' := 16) (tg := 18) hB dc_M_single_13 rfl rfl (fun b2 => ?_) (fun b2 => ?_)
    · refine y_aload_n (pc' := 19) hB dc_M_single_18 rfl rfl 0 rfl ?_
      refine y_aload_n (pc' := 20) hB dc_M_single_19 rfl rfl 0 rfl ?_
      refine y_iload_n (pc' := 21) hB dc_M_single_20 rfl rfl 1 rfl ?_
      refine y_iload_n (pc' := 22) hB dc_M_single_21 rfl rfl 2 rfl ?_
      refine y_callV (c := 24) (ci := 4) (As := [.int (nI (k)), .int (nI (od))]) (rest := [.ref (o.G.ad (24))]) (pc' := 25) hB hE (ct_M_inOrder o.l o.G (yx S 0) k n hk hn hc od ho) mm_M_inOrder q_769 q_771 qs_20 (by decide) rfl rfl dc_M_single_22 rfl (by decide) rfl rfl (Nat.le_of_ble_eq_true rfl) (fun v S' hpost => ?_)
      obtain ⟨bo, rfl, rfl, hbo⟩ := hpost
      show yW o (yx S 0) 25 [(0, .ref (o.G.ad (24))), (1, .int (nI (k))), (2, .int (nI (od)))] [.int (yb bo), .ref (o.G.ad (24))]
      refine y_if_eq (x := yb bo) (pc' := 28) (tg := 32) hB dc_M_single_25 rfl rfl (fun b3 => ?_) (fun b3 => ?_)
      · exact absurd (hbo.mpr hs) (by rw [yb_0.mp b3]; decide)
      · refine y_iconst (v := nI 0) (pc' := 29) hB dc_M_single_28 rfl rfl ?_
        refine y_goto (tg := 33) hB dc_M_single_29 rfl ?_
        refine p_M_code (pc' := 36) hB dc_M_single_33 rfl q_639 ?_
        show yW o (yx (yx S 0) 0) 36 [(0, .ref (o.G.ad (24))), (1, .int (nI (k))), (2, .int (nI (od)))] []
        rw [yx_yx]
        refine y_aload_n (pc' := 37) hB dc_M_single_36 rfl rfl 0 rfl ?_
        refine f_M_code (pc' := 40) hB dc_M_single_37 rfl q_639 ?_
        refine y_topi (y := nI (0)) (yx_c S 0) ?_
        refine n_if_le (pc' := 43) (tg := 45) hB dc_M_single_40 rfl rfl (by omega) (fun b4 => ?_) (fun b4 => ?_)
        · refine y_iconst (v := nI 0) (pc' := 46) hB dc_M_single_45 rfl rfl ?_
          refine y_istore_n (pc' := 47) (lv' := [(3, .int (nI (0))), (0, .ref (o.G.ad (24))), (1, .int (nI (k))), (2, .int (nI (od)))]) hB hm dc_M_single_46 rfl rfl (by decide) rfl ?_
          refine y_iconst (v := nI 0) (pc' := 48) hB dc_M_single_47 rfl rfl ?_
          refine y_istore (pc' := 50) (lv' := [(4, .int (nI (0))), (3, .int (nI (0))), (0, .ref (o.G.ad (24))), (1, .int (nI (k))), (2, .int (nI (od)))]) hB hm dc_M_single_48 rfl (by decide) rfl ?_
          have loop : ∀ (d : Nat) (i l : Nat) (K : Nat → Int64) (T : Nat → Int32), n - i < d → i ≤ n → l ≤ i → zs (fun j => (K (1024 * k + j), T (1024 * k + j))) 0 l = zsl (zq od false) (ze4 S k) i → (∀ j, j < 1024 * k ∨ 1024 * k + i ≤ j → K j = gL S 25 j ∧ T j = gI S 26 j) → (l ≠ 0 → ∃ j0, j0 < i ∧ K (1024 * k + (l - 1)) = ((ze4 S k) j0).1) → yW o (mK (yx S 0) K T) 50 [(4, .int (nI (i))), (3, .int (nI (l))), (0, .ref (o.G.ad (24))), (1, .int (nI (k))), (2, .int (nI (od)))] [] := by
            intro d
            induction d with
            | zero => intro i l K T hd; omega
            | succ d ih =>
              intro i l K T hd h1 h2 h3 h4 h5
              refine y_iload (pc' := 52) hB dc_M_single_50 rfl 0 rfl ?_
              refine y_aload_n (pc' := 53) hB dc_M_single_52 rfl rfl 2 rfl ?_
              refine f_M_sizes (pc' := 56) hB dc_M_single_53 rfl q_642 ?_
              refine y_iload_n (pc' := 57) hB dc_M_single_56 rfl rfl 3 rfl ?_
              refine y_iald (c := 27) (n := 4) (j := k) (pc' := 58) hB dc_M_single_57 rfl (by decide) rfl (by omega) (by decide) ?_
              refine y_topi (y := nI (n)) (by rw [mK_I _ _ _ (by decide)]; exact hc) ?_
              refine n_icmp_ge (pc' := 61) (tg := 150) hB dc_M_single_58 rfl rfl (by omega) (by omega) (fun b5 => ?_) (fun b5 => ?_)
              · have e : i = n := by omega
                subst e
                refine y_aload_n (pc' := 151) hB dc_M_single_150 rfl rfl 2 rfl ?_
                refine f_M_sizes (pc' := 154) hB dc_M_single_151 rfl q_642 ?_
                refine y_iload_n (pc' := 155) hB dc_M_single_154 rfl rfl 3 rfl ?_
                refine y_iload_n (pc' := 156) hB dc_M_single_155 rfl rfl 1 rfl ?_
                refine y_iast (c := 27) (n := 4) (j := k) (pc' := 157) hB dc_M_single_156 rfl (by decide) rfl (by omega) (by decide) ?_
                refine y_iload_n (pc' := 158) hB dc_M_single_157 rfl rfl 1 rfl ?_
                rw [mK_I _ _ _ (by decide)]
                exact y_iret hB hE dc_M_single_158 ⟨l, K, T, rfl, rfl, h2, h3, h4⟩
              · have hz := h4 (1024 * k + i) (by omega)
                refine y_sipush (v := nI 1024) (pc' := 64) hB dc_M_single_61 rfl (by decide) ?_
                refine y_iload_n (pc' := 65) hB dc_M_single_64 rfl rfl 3 rfl ?_
                refine n_imul (x := 1024) (y := k) (pc' := 66) hB dc_M_single_65 rfl ?_
                refine y_iload (pc' := 68) hB dc_M_single_66 rfl 0 rfl ?_
                refine n_iadd (x := 1024 * k) (y := i) (pc' := 69) hB dc_M_single_68 rfl ?_
                refine y_istore (pc' := 71) (lv' := [(5, .int (nI ((1024 * k) + i))), (4, .int (nI (i))), (3, .int (nI (l))), (0, .ref (o.G.ad (24))), (1, .int (nI (k))), (2, .int (nI (od)))]) hB hm dc_M_single_69 rfl (by decide) rfl ?_
                have take : zsl (zq od false) (ze4 S k) (i + 1) = zsl (zq od false) (ze4 S k) i ++ [(ze4 S k) i] → yW o (mK (yx S 0) K T) 103 [(5, .int (nI (1024 * k + i))), (4, .int (nI (i))), (3, .int (nI (l))), (0, .ref (o.G.ad (24))), (1, .int (nI (k))), (2, .int (nI (od)))] [] := by
                  intro q1
                  refine y_aload_n (pc' := 104) hB dc_M_single_103 rfl rfl 3 rfl ?_
                  refine f_M_keys (pc' := 107) hB dc_M_single_104 rfl q_640 ?_
                  refine y_sipush (v := nI 1024) (pc' := 110) hB dc_M_single_107 rfl (by decide) ?_
                  refine y_iload_n (pc' := 111) hB dc_M_single_110 rfl rfl 4 rfl ?_
                  refine n_imul (x := 1024) (y := k) (pc' := 112) hB dc_M_single_111 rfl ?_
                  refine y_iload_n (pc' := 113) hB dc_M_single_112 rfl rfl 2 rfl ?_
                  refine n_iadd (x := 1024 * k) (y := l) (pc' := 114) hB dc_M_single_113 rfl ?_
                  refine y_aload_n (pc' := 115) hB dc_M_single_114 rfl rfl 3 rfl ?_
                  refine f_M_keys (pc' := 118) hB dc_M_single_115 rfl q_640 ?_
                  refine y_iload (pc' := 120) hB dc_M_single_118 rfl 0 rfl ?_
                  refine y_lald (c := 25) (n := 4096) (j := 1024 * k + i) (pc' := 121) hB dc_M_single_120 rfl (by decide) rfl (by omega) (by decide) ?_
                  refine y_topl (y := ((ze4 S k) i).1) (by rw [mK_K]; exact hz.1) ?_
                  refine y_last (c := 25) (n := 4096) (j := (1024 * k) + l) (pc' := 122) hB dc_M_single_121 rfl (by decide) rfl (by omega) (by decide) ?_
                  refine y_aload_n (pc' := 123) hB dc_M_single_122 rfl rfl 3 rfl ?_
                  refine f_M_tags (pc' := 126) hB dc_M_single_123 rfl q_641 ?_
                  refine y_sipush (v := nI 1024) (pc' := 129) hB dc_M_single_126 rfl (by decide) ?_
                  refine y_iload_n (pc' := 130) hB dc_M_single_129 rfl rfl 4 rfl ?_
                  refine n_imul (x := 1024) (y := k) (pc' := 131) hB dc_M_single_130 rfl ?_
                  refine y_iload_n (pc' := 132) hB dc_M_single_131 rfl rfl 2 rfl ?_
                  refine n_iadd (x := 1024 * k) (y := l) (pc' := 133) hB dc_M_single_132 rfl ?_
                  refine y_aload_n (pc' := 134) hB dc_M_single_133 rfl rfl 3 rfl ?_
                  refine f_M_tags (pc' := 137) hB dc_M_single_134 rfl q_641 ?_
                  refine y_iload (pc' := 139) hB dc_M_single_137 rfl 0 rfl ?_
                  refine y_iald (c := 26) (n := 4096) (j := 1024 * k + i) (pc' := 140) hB dc_M_single_139 rfl (by decide) rfl (by omega) (by decide) ?_
                  refine y_topi (y := ((ze4 S k) i).2) (by rw [gI_sL, mK_T]; exact hz.2) ?_
                  refine y_iast (c := 26) (n := 4096) (j := (1024 * k) + l) (pc' := 141) hB dc_M_single_140 rfl (by decide) rfl (by omega) (by decide) ?_
                  rw [gI_sL, mK_K, mK_T, mK_put]
                  refine n_inc (q := 2) (z := 1) (pc' := 144) (lv' := [(3, .int (nI (l + 1))), (5, .int (nI (1024 * k + i))), (4, .int (nI (i))), (0, .ref (o.G.ad (24))), (1, .int (nI (k))), (2, .int (nI (od)))]) hB hm dc_M_single_141 rfl rfl (by decide) rfl ?_
                  refine n_inc (q := 2) (z := 1) (pc' := 147) (lv' := [(4, .int (nI (i + 1))), (3, .int (nI (l + 1))), (5, .int (nI (1024 * k + i))), (0, .ref (o.G.ad (24))), (1, .int (nI (k))), (2, .int (nI (od)))]) hB hm dc_M_single_144 rfl rfl (by decide) rfl ?_
                  refine y_goto (tg := 50) hB dc_M_single_147 rfl ?_
                  refine y_sub [0, 1, 3, 4, 5] rfl ?_
                  refine ih (i + 1) (l + 1) _ _ (by omega) b5 (by omega) ?_ (fun j hj => ?_) (fun _ => ⟨i, by omega, ?_⟩)
                  · rw [q1, zs_succ, ← h3, Nat.zero_add]
                    have ez : zs (fun j => (vp_updL K (1024 * k + l) (ze4 S k i).1 (1024 * k + j), upd T (1024 * k + l) (ze4 S k i).2 (1024 * k + j))) 0 l = zs (fun j => (K (1024 * k + j), T (1024 * k + j))) 0 l := zs_congr fun j hj => by unfold vp_updL upd; rw [Nat.zero_add, if_neg (by omega), if_neg (by omega)]
                    rw [ez]
                    unfold vp_updL upd
                    rw [if_pos rfl, if_pos rfl]
                  · unfold vp_updL upd; rw [if_neg (by omega), if_neg (by omega)]; exact h4 j (by omega)
                  · unfold vp_updL; rw [if_pos (by omega)]
                refine y_iload_n (pc' := 72) hB dc_M_single_71 rfl rfl 2 rfl ?_
                refine n_if_eq (pc' := 75) (tg := 103) hB dc_M_single_72 rfl rfl (by omega) (fun b6 => ?_) (fun b6 => ?_)
                · have e : l = 0 := by omega
                  refine y_sub [0, 1, 2, 3, 4, 5] rfl ?_
                  exact take (by rw [e, zs_zero] at h3; rw [zsl_0 h3.symm, ← h3]; rfl)
                · obtain ⟨j0, hj0, hk0⟩ := h5 (by omega)
                  have hle : zr od ((ze4 S k) j0).1 ≤ zr od ((ze4 S k) i).1 := by have z := zo_zs.mp hs j0 i hj0 (by omega); rw [Nat.zero_add, Nat.zero_add] at z; exact z
                  have hst : zsl (zq od false) (ze4 S k) (i + 1) = if zr od ((ze4 S k) j0).1 < zr od ((ze4 S k) i).1 then zsl (zq od false) (ze4 S k) i ++ [(ze4 S k) i] else zsl (zq od false) (ze4 S k) i := by
                    have z := zsl_s (r := zq od false) (f := (ze4 S k)) (g := (fun j => (K (1024 * k + j), T (1024 * k + j)))) (i := i) (l := l - 1) (by rw [show l - 1 + 1 = l by omega]; exact h3)
                    rw [← hk0]
                    exact z
                  refine y_iload_n (pc' := 76) hB dc_M_single_75 rfl rfl 5 rfl ?_
                  refine y_aload_n (pc' := 77) hB dc_M_single_76 rfl rfl 3 rfl ?_
                  refine f_M_keys (pc' := 80) hB dc_M_single_77 rfl q_640 ?_
                  refine y_iload (pc' := 82) hB dc_M_single_80 rfl 0 rfl ?_
                  refine y_lald (c := 25) (n := 4096) (j := (1024 * k) + i) (pc' := 83) hB dc_M_single_82 rfl (by decide) rfl (by omega) (by decide) ?_
                  refine y_topl (y := ((ze4 S k) i).1) (by rw [mK_K]; exact hz.1) ?_
                  refine y_aload_n (pc' := 84) hB dc_M_single_83 rfl rfl 3 rfl ?_
                  refine f_M_keys (pc' := 87) hB dc_M_single_84 rfl q_640 ?_
                  refine y_sipush (v := nI 1024) (pc' := 90) hB dc_M_single_87 rfl (by decide) ?_
                  refine y_iload_n (pc' := 91) hB dc_M_single_90 rfl rfl 4 rfl ?_
                  refine n_imul (x := 1024) (y := k) (pc' := 92) hB dc_M_single_91 rfl ?_
                  refine y_iload_n (pc' := 93) hB dc_M_single_92 rfl rfl 2 rfl ?_
                  refine n_iadd (x := 1024 * k) (y := l) (pc' := 94) hB dc_M_single_93 rfl ?_
                  refine y_iconst (v := nI 1) (pc' := 95) hB dc_M_single_94 rfl rfl ?_
                  refine n_isub (x := (1024 * k) + l) (y := 1) (pc' := 96) hB dc_M_single_95 rfl (by omega) ?_
                  refine y_lald (c := 25) (n := 4096) (j := ((1024 * k) + l) - 1) (pc' := 97) hB dc_M_single_96 rfl (by decide) rfl (by omega) (by decide) ?_
                  refine y_topl (y := ((ze4 S k) j0).1) (by rw [mK_K, show 1024 * k + l - 1 = 1024 * k + (l - 1) by omega]; exact hk0) ?_
                  refine y_callS (As := [.int (nI (od)), .long (((ze4 S k) i).1), .long (((ze4 S k) j0).1)]) (rest := []) (pc' := 100) hB hE (ct_M_areAlike o.l o.G (mK (yx S 0) K T) od ho ((ze4 S k) i).1 ((ze4 S k) j0).1) mm_M_areAlike q_797 q_798 dc_M_single_97 rfl (by decide) rfl rfl (Nat.le_of_ble_eq_true rfl) (fun v S' hpost => ?_)
                  obtain ⟨rfl, hSS⟩ := hpost
                  rw [hSS]
                  clear hSS S'
                  show yW o (mK (yx S 0) K T) 100 [(5, .int (nI ((1024 * k) + i))), (4, .int (nI (i))), (3, .int (nI (l))), (0, .ref (o.G.ad (24))), (1, .int (nI (k))), (2, .int (nI (od)))] [.int (yb (decide (zr od ((ze4 S k) i).1 = zr od ((ze4 S k) j0).1)))]
                  refine y_if_ne (x := yb (decide (zr od ((ze4 S k) i).1 = zr od ((ze4 S k) j0).1))) (pc' := 103) (tg := 144) hB dc_M_single_100 rfl rfl (fun b7 => ?_) (fun b7 => ?_)
                  · rw [yb_n, decide_eq_true_eq] at b7
                    refine n_inc (q := 1) (z := 1) (pc' := 147) (lv' := [(4, .int (nI (i + 1))), (5, .int (nI ((1024 * k) + i))), (3, .int (nI (l))), (0, .ref (o.G.ad (24))), (1, .int (nI (k))), (2, .int (nI (od)))]) hB hm dc_M_single_144 rfl rfl (by decide) rfl ?_
                    refine y_goto (tg := 50) hB dc_M_single_147 rfl ?_
                    refine y_sub [0, 2, 3, 4, 5] rfl ?_
                    exact ih (i + 1) l K T (by omega) b5 (by omega) (by rw [hst, if_neg (by omega)]; exact h3) (fun j hj => h4 j (by omega)) (fun z => by obtain ⟨j1, q1, q2⟩ := h5 z; exact ⟨j1, by omega, q2⟩)
                  · rw [yb_0, decide_eq_false_iff_not] at b7
                    refine y_sub [0, 1, 2, 3, 4, 5] rfl ?_
                    exact take (by rw [hst, if_pos (by omega)])
          have h0 := loop (n + 1) 0 0 (gL (yx S 0) 25) (gI (yx S 0) 26) (by omega) (by omega) (by omega) (by rw [zs_zero]; rfl) (fun j _ => ⟨rfl, rfl⟩) (fun z => absurd rfl z)
          rw [mK_self] at h0
          exact h0
        · omega
    · exact absurd rfl b2
