/-! LAW: its helpers -/
theorem dc_L_add_0 : decode mb_L_add 0 = .ok (.aload 5, 2) := by decide +kernel
theorem dc_L_add_2 : decode mb_L_add 2 = .ok (.iconst 0, 1) := by decide +kernel
theorem dc_L_add_3 : decode mb_L_add 3 = .ok (.aload_n 0, 1) := by decide +kernel
theorem dc_L_add_4 : decode mb_L_add 4 = .ok (.iload_n 1, 1) := by decide +kernel
theorem dc_L_add_5 : decode mb_L_add 5 = .ok (.lload_n 2, 1) := by decide +kernel
theorem dc_L_add_6 : decode mb_L_add 6 = .ok (.iload 4, 2) := by decide +kernel
theorem dc_L_add_8 : decode mb_L_add 8 = .ok (.invokevirtual 7, 3) := by decide +kernel
theorem dc_L_add_11 : decode mb_L_add 11 = .ok (.i2l, 1) := by decide +kernel
theorem dc_L_add_12 : decode mb_L_add 12 = .ok (.lastore, 1) := by decide +kernel
theorem dc_L_add_13 : decode mb_L_add 13 = .ok (.goto 11, 3) := by decide +kernel
theorem dc_L_add_16 : decode mb_L_add 16 = .ok (.astore 6, 2) := by decide +kernel
theorem dc_L_add_18 : decode mb_L_add 18 = .ok (.iconst 1, 1) := by decide +kernel
theorem dc_L_add_19 : decode mb_L_add 19 = .ok (.ireturn, 1) := by decide +kernel
theorem dc_L_add_20 : decode mb_L_add 20 = .ok (.astore 6, 2) := by decide +kernel
theorem dc_L_add_22 : decode mb_L_add 22 = .ok (.iconst 2, 1) := by decide +kernel
theorem dc_L_add_23 : decode mb_L_add 23 = .ok (.ireturn, 1) := by decide +kernel
theorem dc_L_add_24 : decode mb_L_add 24 = .ok (.iconst 0, 1) := by decide +kernel
theorem dc_L_add_25 : decode mb_L_add 25 = .ok (.ireturn, 1) := by decide +kernel
theorem dc_L_fill_0 : decode mb_L_fill 0 = .ok (.aload_n 0, 1) := by decide +kernel
theorem dc_L_fill_1 : decode mb_L_fill 1 = .ok (.iload_n 1, 1) := by decide +kernel
theorem dc_L_fill_2 : decode mb_L_fill 2 = .ok (.iload_n 2, 1) := by decide +kernel
theorem dc_L_fill_3 : decode mb_L_fill 3 = .ok (.iload_n 3, 1) := by decide +kernel
theorem dc_L_fill_4 : decode mb_L_fill 4 = .ok (.lload 4, 2) := by decide +kernel
theorem dc_L_fill_6 : decode mb_L_fill 6 = .ok (.iload 6, 2) := by decide +kernel
theorem dc_L_fill_8 : decode mb_L_fill 8 = .ok (.invokevirtual 17, 3) := by decide +kernel
theorem dc_L_fill_11 : decode mb_L_fill 11 = .ok (.goto 11, 3) := by decide +kernel
theorem dc_L_fill_14 : decode mb_L_fill 14 = .ok (.astore 7, 2) := by decide +kernel
theorem dc_L_fill_16 : decode mb_L_fill 16 = .ok (.iconst 1, 1) := by decide +kernel
theorem dc_L_fill_17 : decode mb_L_fill 17 = .ok (.ireturn, 1) := by decide +kernel
theorem dc_L_fill_18 : decode mb_L_fill 18 = .ok (.astore 7, 2) := by decide +kernel
theorem dc_L_fill_20 : decode mb_L_fill 20 = .ok (.iconst 2, 1) := by decide +kernel
theorem dc_L_fill_21 : decode mb_L_fill 21 = .ok (.ireturn, 1) := by decide +kernel
theorem dc_L_fill_22 : decode mb_L_fill 22 = .ok (.iconst 0, 1) := by decide +kernel
theorem dc_L_fill_23 : decode mb_L_fill 23 = .ok (.ireturn, 1) := by decide +kernel
theorem dc_L_cut_0 : decode mb_L_cut 0 = .ok (.aload_n 0, 1) := by decide +kernel
theorem dc_L_cut_1 : decode mb_L_cut 1 = .ok (.iload_n 1, 1) := by decide +kernel
theorem dc_L_cut_2 : decode mb_L_cut 2 = .ok (.iload_n 2, 1) := by decide +kernel
theorem dc_L_cut_3 : decode mb_L_cut 3 = .ok (.invokevirtual 23, 3) := by decide +kernel
theorem dc_L_cut_6 : decode mb_L_cut 6 = .ok (.goto 9, 3) := by decide +kernel
theorem dc_L_cut_9 : decode mb_L_cut 9 = .ok (.astore_n 3, 1) := by decide +kernel
theorem dc_L_cut_10 : decode mb_L_cut 10 = .ok (.iconst 1, 1) := by decide +kernel
theorem dc_L_cut_11 : decode mb_L_cut 11 = .ok (.ireturn, 1) := by decide +kernel
theorem dc_L_cut_12 : decode mb_L_cut 12 = .ok (.astore_n 3, 1) := by decide +kernel
theorem dc_L_cut_13 : decode mb_L_cut 13 = .ok (.iconst 2, 1) := by decide +kernel
theorem dc_L_cut_14 : decode mb_L_cut 14 = .ok (.ireturn, 1) := by decide +kernel
theorem dc_L_cut_15 : decode mb_L_cut 15 = .ok (.iconst 0, 1) := by decide +kernel
theorem dc_L_cut_16 : decode mb_L_cut 16 = .ok (.ireturn, 1) := by decide +kernel
theorem dc_L_swap_0 : decode mb_L_swap 0 = .ok (.aload_n 0, 1) := by decide +kernel
theorem dc_L_swap_1 : decode mb_L_swap 1 = .ok (.iload_n 1, 1) := by decide +kernel
theorem dc_L_swap_2 : decode mb_L_swap 2 = .ok (.iload_n 2, 1) := by decide +kernel
theorem dc_L_swap_3 : decode mb_L_swap 3 = .ok (.iload_n 3, 1) := by decide +kernel
theorem dc_L_swap_4 : decode mb_L_swap 4 = .ok (.invokevirtual 27, 3) := by decide +kernel
theorem dc_L_swap_7 : decode mb_L_swap 7 = .ok (.goto 7, 3) := by decide +kernel
theorem dc_L_swap_10 : decode mb_L_swap 10 = .ok (.astore 4, 2) := by decide +kernel
theorem dc_L_swap_12 : decode mb_L_swap 12 = .ok (.iconst 1, 1) := by decide +kernel
theorem dc_L_swap_13 : decode mb_L_swap 13 = .ok (.ireturn, 1) := by decide +kernel
theorem dc_L_swap_14 : decode mb_L_swap 14 = .ok (.iconst 0, 1) := by decide +kernel
theorem dc_L_swap_15 : decode mb_L_swap 15 = .ok (.ireturn, 1) := by decide +kernel
theorem dc_L_number_0 : decode mb_L_number 0 = .ok (.aload_n 0, 1) := by decide +kernel
theorem dc_L_number_1 : decode mb_L_number 1 = .ok (.iload_n 1, 1) := by decide +kernel
theorem dc_L_number_2 : decode mb_L_number 2 = .ok (.invokevirtual 31, 3) := by decide +kernel
theorem dc_L_number_5 : decode mb_L_number 5 = .ok (.goto 6, 3) := by decide +kernel
theorem dc_L_number_8 : decode mb_L_number 8 = .ok (.astore_n 2, 1) := by decide +kernel
theorem dc_L_number_9 : decode mb_L_number 9 = .ok (.iconst 1, 1) := by decide +kernel
theorem dc_L_number_10 : decode mb_L_number 10 = .ok (.ireturn, 1) := by decide +kernel
theorem dc_L_number_11 : decode mb_L_number 11 = .ok (.iconst 0, 1) := by decide +kernel
theorem dc_L_number_12 : decode mb_L_number 12 = .ok (.ireturn, 1) := by decide +kernel
theorem dc_L_copy_0 : decode mb_L_copy 0 = .ok (.aload_n 0, 1) := by decide +kernel
theorem dc_L_copy_1 : decode mb_L_copy 1 = .ok (.iload_n 1, 1) := by decide +kernel
theorem dc_L_copy_2 : decode mb_L_copy 2 = .ok (.iload_n 2, 1) := by decide +kernel
theorem dc_L_copy_3 : decode mb_L_copy 3 = .ok (.invokevirtual 35, 3) := by decide +kernel
theorem dc_L_copy_6 : decode mb_L_copy 6 = .ok (.goto 6, 3) := by decide +kernel
theorem dc_L_copy_9 : decode mb_L_copy 9 = .ok (.astore_n 3, 1) := by decide +kernel
theorem dc_L_copy_10 : decode mb_L_copy 10 = .ok (.iconst 1, 1) := by decide +kernel
theorem dc_L_copy_11 : decode mb_L_copy 11 = .ok (.ireturn, 1) := by decide +kernel
theorem dc_L_copy_12 : decode mb_L_copy 12 = .ok (.iconst 0, 1) := by decide +kernel
theorem dc_L_copy_13 : decode mb_L_copy 13 = .ok (.ireturn, 1) := by decide +kernel
theorem dc_L_size_0 : decode mb_L_size 0 = .ok (.aload_n 2, 1) := by decide +kernel
theorem dc_L_size_1 : decode mb_L_size 1 = .ok (.iconst 0, 1) := by decide +kernel
theorem dc_L_size_2 : decode mb_L_size 2 = .ok (.aload_n 0, 1) := by decide +kernel
theorem dc_L_size_3 : decode mb_L_size 3 = .ok (.iload_n 1, 1) := by decide +kernel
theorem dc_L_size_4 : decode mb_L_size 4 = .ok (.invokevirtual 38, 3) := by decide +kernel
theorem dc_L_size_7 : decode mb_L_size 7 = .ok (.i2l, 1) := by decide +kernel
theorem dc_L_size_8 : decode mb_L_size 8 = .ok (.lastore, 1) := by decide +kernel
theorem dc_L_size_9 : decode mb_L_size 9 = .ok (.goto 6, 3) := by decide +kernel
theorem dc_L_size_12 : decode mb_L_size 12 = .ok (.astore_n 3, 1) := by decide +kernel
theorem dc_L_size_13 : decode mb_L_size 13 = .ok (.iconst 1, 1) := by decide +kernel
theorem dc_L_size_14 : decode mb_L_size 14 = .ok (.ireturn, 1) := by decide +kernel
theorem dc_L_size_15 : decode mb_L_size 15 = .ok (.iconst 0, 1) := by decide +kernel
theorem dc_L_size_16 : decode mb_L_size 16 = .ok (.ireturn, 1) := by decide +kernel
theorem dc_L_key_0 : decode mb_L_key 0 = .ok (.aload_n 3, 1) := by decide +kernel
theorem dc_L_key_1 : decode mb_L_key 1 = .ok (.iconst 0, 1) := by decide +kernel
theorem dc_L_key_2 : decode mb_L_key 2 = .ok (.aload_n 0, 1) := by decide +kernel
theorem dc_L_key_3 : decode mb_L_key 3 = .ok (.iload_n 1, 1) := by decide +kernel
theorem dc_L_key_4 : decode mb_L_key 4 = .ok (.iload_n 2, 1) := by decide +kernel
theorem dc_L_key_5 : decode mb_L_key 5 = .ok (.invokevirtual 42, 3) := by decide +kernel
theorem dc_L_key_8 : decode mb_L_key 8 = .ok (.lastore, 1) := by decide +kernel
theorem dc_L_key_9 : decode mb_L_key 9 = .ok (.goto 7, 3) := by decide +kernel
theorem dc_L_key_12 : decode mb_L_key 12 = .ok (.astore 4, 2) := by decide +kernel
theorem dc_L_key_14 : decode mb_L_key 14 = .ok (.iconst 1, 1) := by decide +kernel
theorem dc_L_key_15 : decode mb_L_key 15 = .ok (.ireturn, 1) := by decide +kernel
theorem dc_L_key_16 : decode mb_L_key 16 = .ok (.iconst 0, 1) := by decide +kernel
theorem dc_L_key_17 : decode mb_L_key 17 = .ok (.ireturn, 1) := by decide +kernel
theorem dc_L_tag_0 : decode mb_L_tag 0 = .ok (.aload_n 3, 1) := by decide +kernel
theorem dc_L_tag_1 : decode mb_L_tag 1 = .ok (.iconst 0, 1) := by decide +kernel
theorem dc_L_tag_2 : decode mb_L_tag 2 = .ok (.aload_n 0, 1) := by decide +kernel
theorem dc_L_tag_3 : decode mb_L_tag 3 = .ok (.iload_n 1, 1) := by decide +kernel
theorem dc_L_tag_4 : decode mb_L_tag 4 = .ok (.iload_n 2, 1) := by decide +kernel
theorem dc_L_tag_5 : decode mb_L_tag 5 = .ok (.invokevirtual 46, 3) := by decide +kernel
theorem dc_L_tag_8 : decode mb_L_tag 8 = .ok (.i2l, 1) := by decide +kernel
theorem dc_L_tag_9 : decode mb_L_tag 9 = .ok (.lastore, 1) := by decide +kernel
theorem dc_L_tag_10 : decode mb_L_tag 10 = .ok (.goto 7, 3) := by decide +kernel
theorem dc_L_tag_13 : decode mb_L_tag 13 = .ok (.astore 4, 2) := by decide +kernel
theorem dc_L_tag_15 : decode mb_L_tag 15 = .ok (.iconst 1, 1) := by decide +kernel
theorem dc_L_tag_16 : decode mb_L_tag 16 = .ok (.ireturn, 1) := by decide +kernel
theorem dc_L_tag_17 : decode mb_L_tag 17 = .ok (.iconst 0, 1) := by decide +kernel
theorem dc_L_tag_18 : decode mb_L_tag 18 = .ok (.ireturn, 1) := by decide +kernel
theorem dc_L_sort_0 : decode mb_L_sort 0 = .ok (.aload_n 0, 1) := by decide +kernel
theorem dc_L_sort_1 : decode mb_L_sort 1 = .ok (.iload_n 1, 1) := by decide +kernel
theorem dc_L_sort_2 : decode mb_L_sort 2 = .ok (.iload_n 2, 1) := by decide +kernel
theorem dc_L_sort_3 : decode mb_L_sort 3 = .ok (.iload_n 3, 1) := by decide +kernel
theorem dc_L_sort_4 : decode mb_L_sort 4 = .ok (.invokevirtual 50, 3) := by decide +kernel
theorem dc_L_sort_7 : decode mb_L_sort 7 = .ok (.goto 11, 3) := by decide +kernel
theorem dc_L_sort_10 : decode mb_L_sort 10 = .ok (.astore 4, 2) := by decide +kernel
theorem dc_L_sort_12 : decode mb_L_sort 12 = .ok (.iconst 1, 1) := by decide +kernel
theorem dc_L_sort_13 : decode mb_L_sort 13 = .ok (.ireturn, 1) := by decide +kernel
theorem dc_L_sort_14 : decode mb_L_sort 14 = .ok (.astore 4, 2) := by decide +kernel
theorem dc_L_sort_16 : decode mb_L_sort 16 = .ok (.iconst 2, 1) := by decide +kernel
theorem dc_L_sort_17 : decode mb_L_sort 17 = .ok (.ireturn, 1) := by decide +kernel
theorem dc_L_sort_18 : decode mb_L_sort 18 = .ok (.iconst 0, 1) := by decide +kernel
theorem dc_L_sort_19 : decode mb_L_sort 19 = .ok (.ireturn, 1) := by decide +kernel
theorem dc_L_sorted_0 : decode mb_L_sorted 0 = .ok (.aload_n 3, 1) := by decide +kernel
theorem dc_L_sorted_1 : decode mb_L_sorted 1 = .ok (.iconst 0, 1) := by decide +kernel
theorem dc_L_sorted_2 : decode mb_L_sorted 2 = .ok (.aload_n 0, 1) := by decide +kernel
theorem dc_L_sorted_3 : decode mb_L_sorted 3 = .ok (.iload_n 1, 1) := by decide +kernel
theorem dc_L_sorted_4 : decode mb_L_sorted 4 = .ok (.iload_n 2, 1) := by decide +kernel
theorem dc_L_sorted_5 : decode mb_L_sorted 5 = .ok (.invokevirtual 53, 3) := by decide +kernel
theorem dc_L_sorted_8 : decode mb_L_sorted 8 = .ok (.ifCond .eq 7, 3) := by decide +kernel
theorem dc_L_sorted_11 : decode mb_L_sorted 11 = .ok (.lconst 1, 1) := by decide +kernel
theorem dc_L_sorted_12 : decode mb_L_sorted 12 = .ok (.goto 4, 3) := by decide +kernel
theorem dc_L_sorted_15 : decode mb_L_sorted 15 = .ok (.lconst 0, 1) := by decide +kernel
theorem dc_L_sorted_16 : decode mb_L_sorted 16 = .ok (.lastore, 1) := by decide +kernel
theorem dc_L_sorted_17 : decode mb_L_sorted 17 = .ok (.goto 11, 3) := by decide +kernel
theorem dc_L_sorted_20 : decode mb_L_sorted 20 = .ok (.astore 4, 2) := by decide +kernel
theorem dc_L_sorted_22 : decode mb_L_sorted 22 = .ok (.iconst 1, 1) := by decide +kernel
theorem dc_L_sorted_23 : decode mb_L_sorted 23 = .ok (.ireturn, 1) := by decide +kernel
theorem dc_L_sorted_24 : decode mb_L_sorted 24 = .ok (.astore 4, 2) := by decide +kernel
theorem dc_L_sorted_26 : decode mb_L_sorted 26 = .ok (.iconst 2, 1) := by decide +kernel
theorem dc_L_sorted_27 : decode mb_L_sorted 27 = .ok (.ireturn, 1) := by decide +kernel
theorem dc_L_sorted_28 : decode mb_L_sorted 28 = .ok (.iconst 0, 1) := by decide +kernel
theorem dc_L_sorted_29 : decode mb_L_sorted 29 = .ok (.ireturn, 1) := by decide +kernel
theorem dc_L_runs_0 : decode mb_L_runs 0 = .ok (.aload_n 3, 1) := by decide +kernel
theorem dc_L_runs_1 : decode mb_L_runs 1 = .ok (.iconst 0, 1) := by decide +kernel
theorem dc_L_runs_2 : decode mb_L_runs 2 = .ok (.aload_n 0, 1) := by decide +kernel
theorem dc_L_runs_3 : decode mb_L_runs 3 = .ok (.iload_n 1, 1) := by decide +kernel
theorem dc_L_runs_4 : decode mb_L_runs 4 = .ok (.iload_n 2, 1) := by decide +kernel
theorem dc_L_runs_5 : decode mb_L_runs 5 = .ok (.invokevirtual 57, 3) := by decide +kernel
theorem dc_L_runs_8 : decode mb_L_runs 8 = .ok (.i2l, 1) := by decide +kernel
theorem dc_L_runs_9 : decode mb_L_runs 9 = .ok (.lastore, 1) := by decide +kernel
theorem dc_L_runs_10 : decode mb_L_runs 10 = .ok (.goto 11, 3) := by decide +kernel
theorem dc_L_runs_13 : decode mb_L_runs 13 = .ok (.astore 4, 2) := by decide +kernel
theorem dc_L_runs_15 : decode mb_L_runs 15 = .ok (.iconst 1, 1) := by decide +kernel
theorem dc_L_runs_16 : decode mb_L_runs 16 = .ok (.ireturn, 1) := by decide +kernel
theorem dc_L_runs_17 : decode mb_L_runs 17 = .ok (.astore 4, 2) := by decide +kernel
theorem dc_L_runs_19 : decode mb_L_runs 19 = .ok (.iconst 2, 1) := by decide +kernel
theorem dc_L_runs_20 : decode mb_L_runs 20 = .ok (.ireturn, 1) := by decide +kernel
theorem dc_L_runs_21 : decode mb_L_runs 21 = .ok (.iconst 0, 1) := by decide +kernel
theorem dc_L_runs_22 : decode mb_L_runs 22 = .ok (.ireturn, 1) := by decide +kernel
theorem dc_L_inversions_0 : decode mb_L_inversions 0 = .ok (.aload_n 3, 1) := by decide +kernel
theorem dc_L_inversions_1 : decode mb_L_inversions 1 = .ok (.iconst 0, 1) := by decide +kernel
theorem dc_L_inversions_2 : decode mb_L_inversions 2 = .ok (.aload_n 0, 1) := by decide +kernel
theorem dc_L_inversions_3 : decode mb_L_inversions 3 = .ok (.iload_n 1, 1) := by decide +kernel
theorem dc_L_inversions_4 : decode mb_L_inversions 4 = .ok (.iload_n 2, 1) := by decide +kernel
theorem dc_L_inversions_5 : decode mb_L_inversions 5 = .ok (.invokevirtual 60, 3) := by decide +kernel
theorem dc_L_inversions_8 : decode mb_L_inversions 8 = .ok (.i2l, 1) := by decide +kernel
theorem dc_L_inversions_9 : decode mb_L_inversions 9 = .ok (.lastore, 1) := by decide +kernel
theorem dc_L_inversions_10 : decode mb_L_inversions 10 = .ok (.goto 11, 3) := by decide +kernel
theorem dc_L_inversions_13 : decode mb_L_inversions 13 = .ok (.astore 4, 2) := by decide +kernel
theorem dc_L_inversions_15 : decode mb_L_inversions 15 = .ok (.iconst 1, 1) := by decide +kernel
theorem dc_L_inversions_16 : decode mb_L_inversions 16 = .ok (.ireturn, 1) := by decide +kernel
theorem dc_L_inversions_17 : decode mb_L_inversions 17 = .ok (.astore 4, 2) := by decide +kernel
theorem dc_L_inversions_19 : decode mb_L_inversions 19 = .ok (.iconst 2, 1) := by decide +kernel
theorem dc_L_inversions_20 : decode mb_L_inversions 20 = .ok (.ireturn, 1) := by decide +kernel
theorem dc_L_inversions_21 : decode mb_L_inversions 21 = .ok (.iconst 0, 1) := by decide +kernel
theorem dc_L_inversions_22 : decode mb_L_inversions 22 = .ok (.ireturn, 1) := by decide +kernel
theorem dc_L_ranked_0 : decode mb_L_ranked 0 = .ok (.aload 4, 2) := by decide +kernel
theorem dc_L_ranked_2 : decode mb_L_ranked 2 = .ok (.iconst 0, 1) := by decide +kernel
theorem dc_L_ranked_3 : decode mb_L_ranked 3 = .ok (.aload_n 0, 1) := by decide +kernel
theorem dc_L_ranked_4 : decode mb_L_ranked 4 = .ok (.iload_n 1, 1) := by decide +kernel
theorem dc_L_ranked_5 : decode mb_L_ranked 5 = .ok (.iload_n 2, 1) := by decide +kernel
theorem dc_L_ranked_6 : decode mb_L_ranked 6 = .ok (.iload_n 3, 1) := by decide +kernel
theorem dc_L_ranked_7 : decode mb_L_ranked 7 = .ok (.invokevirtual 63, 3) := by decide +kernel
theorem dc_L_ranked_10 : decode mb_L_ranked 10 = .ok (.i2l, 1) := by decide +kernel
theorem dc_L_ranked_11 : decode mb_L_ranked 11 = .ok (.lastore, 1) := by decide +kernel
theorem dc_L_ranked_12 : decode mb_L_ranked 12 = .ok (.goto 11, 3) := by decide +kernel
theorem dc_L_ranked_15 : decode mb_L_ranked 15 = .ok (.astore 5, 2) := by decide +kernel
theorem dc_L_ranked_17 : decode mb_L_ranked 17 = .ok (.iconst 1, 1) := by decide +kernel
theorem dc_L_ranked_18 : decode mb_L_ranked 18 = .ok (.ireturn, 1) := by decide +kernel
theorem dc_L_ranked_19 : decode mb_L_ranked 19 = .ok (.astore 5, 2) := by decide +kernel
theorem dc_L_ranked_21 : decode mb_L_ranked 21 = .ok (.iconst 2, 1) := by decide +kernel
theorem dc_L_ranked_22 : decode mb_L_ranked 22 = .ok (.ireturn, 1) := by decide +kernel
theorem dc_L_ranked_23 : decode mb_L_ranked 23 = .ok (.iconst 0, 1) := by decide +kernel
theorem dc_L_ranked_24 : decode mb_L_ranked 24 = .ok (.ireturn, 1) := by decide +kernel
theorem dc_L_climb_0 : decode mb_L_climb 0 = .ok (.aload_n 3, 1) := by decide +kernel
theorem dc_L_climb_1 : decode mb_L_climb 1 = .ok (.iconst 0, 1) := by decide +kernel
theorem dc_L_climb_2 : decode mb_L_climb 2 = .ok (.aload_n 0, 1) := by decide +kernel
theorem dc_L_climb_3 : decode mb_L_climb 3 = .ok (.iload_n 1, 1) := by decide +kernel
theorem dc_L_climb_4 : decode mb_L_climb 4 = .ok (.iload_n 2, 1) := by decide +kernel
theorem dc_L_climb_5 : decode mb_L_climb 5 = .ok (.invokevirtual 67, 3) := by decide +kernel
theorem dc_L_climb_8 : decode mb_L_climb 8 = .ok (.i2l, 1) := by decide +kernel
theorem dc_L_climb_9 : decode mb_L_climb 9 = .ok (.lastore, 1) := by decide +kernel
theorem dc_L_climb_10 : decode mb_L_climb 10 = .ok (.goto 11, 3) := by decide +kernel
theorem dc_L_climb_13 : decode mb_L_climb 13 = .ok (.astore 4, 2) := by decide +kernel
theorem dc_L_climb_15 : decode mb_L_climb 15 = .ok (.iconst 1, 1) := by decide +kernel
theorem dc_L_climb_16 : decode mb_L_climb 16 = .ok (.ireturn, 1) := by decide +kernel
theorem dc_L_climb_17 : decode mb_L_climb 17 = .ok (.astore 4, 2) := by decide +kernel
theorem dc_L_climb_19 : decode mb_L_climb 19 = .ok (.iconst 2, 1) := by decide +kernel
theorem dc_L_climb_20 : decode mb_L_climb 20 = .ok (.ireturn, 1) := by decide +kernel
theorem dc_L_climb_21 : decode mb_L_climb 21 = .ok (.iconst 0, 1) := by decide +kernel
theorem dc_L_climb_22 : decode mb_L_climb 22 = .ok (.ireturn, 1) := by decide +kernel
theorem dc_L_find_0 : decode mb_L_find 0 = .ok (.aload 6, 2) := by decide +kernel
theorem dc_L_find_2 : decode mb_L_find 2 = .ok (.iconst 0, 1) := by decide +kernel
theorem dc_L_find_3 : decode mb_L_find 3 = .ok (.aload_n 0, 1) := by decide +kernel
theorem dc_L_find_4 : decode mb_L_find 4 = .ok (.iload_n 1, 1) := by decide +kernel
theorem dc_L_find_5 : decode mb_L_find 5 = .ok (.iload_n 2, 1) := by decide +kernel
theorem dc_L_find_6 : decode mb_L_find 6 = .ok (.lload_n 3, 1) := by decide +kernel
theorem dc_L_find_7 : decode mb_L_find 7 = .ok (.iload 5, 2) := by decide +kernel
theorem dc_L_find_9 : decode mb_L_find 9 = .ok (.invokevirtual 70, 3) := by decide +kernel
theorem dc_L_find_12 : decode mb_L_find 12 = .ok (.i2l, 1) := by decide +kernel
theorem dc_L_find_13 : decode mb_L_find 13 = .ok (.lastore, 1) := by decide +kernel
theorem dc_L_find_14 : decode mb_L_find 14 = .ok (.goto 15, 3) := by decide +kernel
theorem dc_L_find_17 : decode mb_L_find 17 = .ok (.astore 7, 2) := by decide +kernel
theorem dc_L_find_19 : decode mb_L_find 19 = .ok (.iconst 1, 1) := by decide +kernel
theorem dc_L_find_20 : decode mb_L_find 20 = .ok (.ireturn, 1) := by decide +kernel
theorem dc_L_find_21 : decode mb_L_find 21 = .ok (.astore 7, 2) := by decide +kernel
theorem dc_L_find_23 : decode mb_L_find 23 = .ok (.iconst 2, 1) := by decide +kernel
theorem dc_L_find_24 : decode mb_L_find 24 = .ok (.ireturn, 1) := by decide +kernel
theorem dc_L_find_25 : decode mb_L_find 25 = .ok (.astore 7, 2) := by decide +kernel
theorem dc_L_find_27 : decode mb_L_find 27 = .ok (.iconst 3, 1) := by decide +kernel
theorem dc_L_find_28 : decode mb_L_find 28 = .ok (.ireturn, 1) := by decide +kernel
theorem dc_L_find_29 : decode mb_L_find 29 = .ok (.iconst 0, 1) := by decide +kernel
theorem dc_L_find_30 : decode mb_L_find 30 = .ok (.ireturn, 1) := by decide +kernel
theorem dc_L_merge_0 : decode mb_L_merge 0 = .ok (.aload 5, 2) := by decide +kernel
theorem dc_L_merge_2 : decode mb_L_merge 2 = .ok (.iconst 0, 1) := by decide +kernel
theorem dc_L_merge_3 : decode mb_L_merge 3 = .ok (.aload_n 0, 1) := by decide +kernel
theorem dc_L_merge_4 : decode mb_L_merge 4 = .ok (.iload_n 1, 1) := by decide +kernel
theorem dc_L_merge_5 : decode mb_L_merge 5 = .ok (.iload_n 2, 1) := by decide +kernel
theorem dc_L_merge_6 : decode mb_L_merge 6 = .ok (.iload_n 3, 1) := by decide +kernel
theorem dc_L_merge_7 : decode mb_L_merge 7 = .ok (.iload 4, 2) := by decide +kernel
theorem dc_L_merge_9 : decode mb_L_merge 9 = .ok (.invokevirtual 74, 3) := by decide +kernel
theorem dc_L_merge_12 : decode mb_L_merge 12 = .ok (.i2l, 1) := by decide +kernel
theorem dc_L_merge_13 : decode mb_L_merge 13 = .ok (.lastore, 1) := by decide +kernel
theorem dc_L_merge_14 : decode mb_L_merge 14 = .ok (.goto 15, 3) := by decide +kernel
theorem dc_L_merge_17 : decode mb_L_merge 17 = .ok (.astore 6, 2) := by decide +kernel
theorem dc_L_merge_19 : decode mb_L_merge 19 = .ok (.iconst 1, 1) := by decide +kernel
theorem dc_L_merge_20 : decode mb_L_merge 20 = .ok (.ireturn, 1) := by decide +kernel
theorem dc_L_merge_21 : decode mb_L_merge 21 = .ok (.astore 6, 2) := by decide +kernel
theorem dc_L_merge_23 : decode mb_L_merge 23 = .ok (.iconst 2, 1) := by decide +kernel
theorem dc_L_merge_24 : decode mb_L_merge 24 = .ok (.ireturn, 1) := by decide +kernel
theorem dc_L_merge_25 : decode mb_L_merge 25 = .ok (.astore 6, 2) := by decide +kernel
theorem dc_L_merge_27 : decode mb_L_merge 27 = .ok (.iconst 3, 1) := by decide +kernel
theorem dc_L_merge_28 : decode mb_L_merge 28 = .ok (.ireturn, 1) := by decide +kernel
theorem dc_L_merge_29 : decode mb_L_merge 29 = .ok (.iconst 0, 1) := by decide +kernel
theorem dc_L_merge_30 : decode mb_L_merge 30 = .ok (.ireturn, 1) := by decide +kernel
theorem dc_L_single_0 : decode mb_L_single 0 = .ok (.aload_n 3, 1) := by decide +kernel
theorem dc_L_single_1 : decode mb_L_single 1 = .ok (.iconst 0, 1) := by decide +kernel
theorem dc_L_single_2 : decode mb_L_single 2 = .ok (.aload_n 0, 1) := by decide +kernel
theorem dc_L_single_3 : decode mb_L_single 3 = .ok (.iload_n 1, 1) := by decide +kernel
theorem dc_L_single_4 : decode mb_L_single 4 = .ok (.iload_n 2, 1) := by decide +kernel
theorem dc_L_single_5 : decode mb_L_single 5 = .ok (.invokevirtual 78, 3) := by decide +kernel
theorem dc_L_single_8 : decode mb_L_single 8 = .ok (.i2l, 1) := by decide +kernel
theorem dc_L_single_9 : decode mb_L_single 9 = .ok (.lastore, 1) := by decide +kernel
theorem dc_L_single_10 : decode mb_L_single 10 = .ok (.goto 15, 3) := by decide +kernel
theorem dc_L_single_13 : decode mb_L_single 13 = .ok (.astore 4, 2) := by decide +kernel
theorem dc_L_single_15 : decode mb_L_single 15 = .ok (.iconst 1, 1) := by decide +kernel
theorem dc_L_single_16 : decode mb_L_single 16 = .ok (.ireturn, 1) := by decide +kernel
theorem dc_L_single_17 : decode mb_L_single 17 = .ok (.astore 4, 2) := by decide +kernel
theorem dc_L_single_19 : decode mb_L_single 19 = .ok (.iconst 2, 1) := by decide +kernel
theorem dc_L_single_20 : decode mb_L_single 20 = .ok (.ireturn, 1) := by decide +kernel
theorem dc_L_single_21 : decode mb_L_single 21 = .ok (.astore 4, 2) := by decide +kernel
theorem dc_L_single_23 : decode mb_L_single 23 = .ok (.iconst 3, 1) := by decide +kernel
theorem dc_L_single_24 : decode mb_L_single 24 = .ok (.ireturn, 1) := by decide +kernel
theorem dc_L_single_25 : decode mb_L_single 25 = .ok (.iconst 0, 1) := by decide +kernel
theorem dc_L_single_26 : decode mb_L_single 26 = .ok (.ireturn, 1) := by decide +kernel
theorem dc_L_front_0 : decode mb_L_front 0 = .ok (.aload_n 0, 1) := by decide +kernel
theorem dc_L_front_1 : decode mb_L_front 1 = .ok (.iload_n 1, 1) := by decide +kernel
theorem dc_L_front_2 : decode mb_L_front 2 = .ok (.iload_n 2, 1) := by decide +kernel
theorem dc_L_front_3 : decode mb_L_front 3 = .ok (.iload_n 3, 1) := by decide +kernel
theorem dc_L_front_4 : decode mb_L_front 4 = .ok (.invokevirtual 81, 3) := by decide +kernel
theorem dc_L_front_7 : decode mb_L_front 7 = .ok (.goto 11, 3) := by decide +kernel
theorem dc_L_front_10 : decode mb_L_front 10 = .ok (.astore 4, 2) := by decide +kernel
theorem dc_L_front_12 : decode mb_L_front 12 = .ok (.iconst 1, 1) := by decide +kernel
theorem dc_L_front_13 : decode mb_L_front 13 = .ok (.ireturn, 1) := by decide +kernel
theorem dc_L_front_14 : decode mb_L_front 14 = .ok (.astore 4, 2) := by decide +kernel
theorem dc_L_front_16 : decode mb_L_front 16 = .ok (.iconst 2, 1) := by decide +kernel
theorem dc_L_front_17 : decode mb_L_front 17 = .ok (.ireturn, 1) := by decide +kernel
theorem dc_L_front_18 : decode mb_L_front 18 = .ok (.iconst 0, 1) := by decide +kernel
theorem dc_L_front_19 : decode mb_L_front 19 = .ok (.ireturn, 1) := by decide +kernel
theorem dc_L_mark_0 : decode mb_L_mark 0 = .ok (.aload_n 2, 1) := by decide +kernel
theorem dc_L_mark_1 : decode mb_L_mark 1 = .ok (.iconst 0, 1) := by decide +kernel
theorem dc_L_mark_2 : decode mb_L_mark 2 = .ok (.aload_n 0, 1) := by decide +kernel
theorem dc_L_mark_3 : decode mb_L_mark 3 = .ok (.iload_n 1, 1) := by decide +kernel
theorem dc_L_mark_4 : decode mb_L_mark 4 = .ok (.invokevirtual 84, 3) := by decide +kernel
theorem dc_L_mark_7 : decode mb_L_mark 7 = .ok (.lastore, 1) := by decide +kernel
theorem dc_L_mark_8 : decode mb_L_mark 8 = .ok (.goto 6, 3) := by decide +kernel
theorem dc_L_mark_11 : decode mb_L_mark 11 = .ok (.astore_n 3, 1) := by decide +kernel
theorem dc_L_mark_12 : decode mb_L_mark 12 = .ok (.iconst 1, 1) := by decide +kernel
theorem dc_L_mark_13 : decode mb_L_mark 13 = .ok (.ireturn, 1) := by decide +kernel
theorem dc_L_mark_14 : decode mb_L_mark 14 = .ok (.iconst 0, 1) := by decide +kernel
theorem dc_L_mark_15 : decode mb_L_mark 15 = .ok (.ireturn, 1) := by decide +kernel
section YHH
variable {o : YO} {b : ByteArray} {own : String} {S : YS} {pc n lev : Nat} {lv : List (Nat × Value)} {hh : List (Nat × Nat × Nat × Nat)} {post : Option Value → YS → Prop} {E : String}
/-- caught: a code is returned -/
theorem y_code {pre suf : List (Nat × Nat × Nat × Nat)} {s0 e0 hp ct i c : Nat} (hB : yB o b own) (hE : yEH o n (some .int) hh lev post) (hz1 : o.cells = 0) (hz2 : o.slots = 0) (hs : hh = pre ++ (s0, e0, hp, ct) :: suf) (h1 : s0 ≤ pc) (h2 : pc < e0) (h3 : ct ≠ 0) (hpass : ∀ z ∈ pre, z.2.2.2 ≠ 0 ∧ ∃ nm : String, Cond.classLink own z.2.2.2 nm ∈ yL ∧ (E, nm) ∈ ync) (hlink : Cond.classLink own ct E ∈ yL) (hcast : Cond.castable E E ∈ yL)
    (hi : i < n) (d1 : decode b hp = .ok (.astore i, 2)) (d2 : decode b (hp + 2) = .ok (.iconst c, 1)) (d3 : decode b (hp + 3) = .ok (.ireturn, 1)) (h : post (some (.int (nI c))) S) : yWX (yat o (o.cells + 1) (o.slots + 6)) S pc lv E := by
  refine y_caught (o := yat o (o.cells + 1) (o.slots + 6)) (hh := hh) (pre := pre) (suf := suf) (s0 := s0) (e0 := e0) (hp := hp) (ct := ct) hB hE.2.2.2.1 hs h1 h2 h3 hpass hlink hcast (fun q => ?_)
  refine y_astore (o := yat o (o.cells + 1) (o.slots + 6)) (pc' := hp + 2) hB hE.1 d1 rfl hi rfl ?_
  refine y_iconst (o := yat o (o.cells + 1) (o.slots + 6)) (v := nI c) (pc' := hp + 3) hB d2 rfl rfl ?_
  exact y_hret (o := yat o (o.cells + 1) (o.slots + 6)) (hh := hh) (lev := lev) (n := n) (post := post) hB hE (by show o.cells + 1 ≤ 1; omega) (by show o.slots + 6 ≤ 6; omega) d3 h
theorem y_code_n {pre suf : List (Nat × Nat × Nat × Nat)} {s0 e0 hp ct c : Nat} {i : Fin 4} (hB : yB o b own) (hE : yEH o n (some .int) hh lev post) (hz1 : o.cells = 0) (hz2 : o.slots = 0) (hs : hh = pre ++ (s0, e0, hp, ct) :: suf) (h1 : s0 ≤ pc) (h2 : pc < e0) (h3 : ct ≠ 0) (hpass : ∀ z ∈ pre, z.2.2.2 ≠ 0 ∧ ∃ nm : String, Cond.classLink own z.2.2.2 nm ∈ yL ∧ (E, nm) ∈ ync) (hlink : Cond.classLink own ct E ∈ yL) (hcast : Cond.castable E E ∈ yL)
    (hi : (i : Nat) < n) (d1 : decode b hp = .ok (.astore_n i, 1)) (d2 : decode b (hp + 1) = .ok (.iconst c, 1)) (d3 : decode b (hp + 2) = .ok (.ireturn, 1)) (h : post (some (.int (nI c))) S) : yWX (yat o (o.cells + 1) (o.slots + 6)) S pc lv E := by
  refine y_caught (o := yat o (o.cells + 1) (o.slots + 6)) (hh := hh) (pre := pre) (suf := suf) (s0 := s0) (e0 := e0) (hp := hp) (ct := ct) hB hE.2.2.2.1 hs h1 h2 h3 hpass hlink hcast (fun q => ?_)
  refine y_astore_n (o := yat o (o.cells + 1) (o.slots + 6)) (pc' := hp + 1) hB hE.1 d1 rfl rfl hi rfl ?_
  refine y_iconst (o := yat o (o.cells + 1) (o.slots + 6)) (v := nI c) (pc' := hp + 2) hB d2 rfl rfl ?_
  exact y_hret (o := yat o (o.cells + 1) (o.slots + 6)) (hh := hh) (lev := lev) (n := n) (post := post) hB hE (by show o.cells + 1 ≤ 1; omega) (by show o.slots + 6 ≤ 6; omega) d3 h
end YHH
set_option maxHeartbeats 4000000 in
set_option maxRecDepth 100000 in
theorem hp_add_0 (l : Launch) (g : YG) (S : YS) (a : Int32) (b : Int64) (c : Int32) (lev : Nat) (hlev : lev ≤ 30) (P : Int32 → YS → Prop) (H : yC l mn_B_add mb_B_add 6 (some .int) lev g [.ref (g.ad (0)), .int (a), .long (b), .int (c)] S (fun v S' => ∃ b0 : Int32, v = some (.int b0) ∧ P b0 S')) : yHC l mn_L_add mb_L_add 7 (some .int) [(0, 13, 16, 13), (0, 13, 20, 15)] 32 g [.ref (g.ad (0)), .int (a), .long (b), .int (c), .ref (g.ad (31))] S (fun v S' => v = some (.int (nI 0)) ∧ ∃ (b0 : Int32) (S1 : YS), P b0 S1 ∧ S' = sL (S1) 31 (vp_updL (gL (S1) 31) 0 (Int32.toInt64 b0))) := by
  refine yHC_of (by decide) (Nat.le_of_ble_eq_true rfl) ?_
  intro o hl hg hz1 hz2 hB0 hE
  subst hl
  subst hg
  have hB : yB o mb_L_add "OrderBenchLaw" := hB0
  have hm := hE.1
  show yW o (S) 0 [(0, .ref (o.G.ad (0))), (1, .int (a)), (2, .long (b)), (4, .int (c)), (5, .ref (o.G.ad (31)))] []
  refine y_aload (pc' := 2) hB dc_L_add_0 rfl 4 rfl ?_
  refine y_iconst (v := nI 0) (pc' := 3) hB dc_L_add_2 rfl rfl ?_
  refine y_aload_n (pc' := 4) hB dc_L_add_3 rfl rfl 0 rfl ?_
  refine y_iload_n (pc' := 5) hB dc_L_add_4 rfl rfl 1 rfl ?_
  refine y_lload_n (pc' := 6) hB dc_L_add_5 rfl rfl 2 rfl ?_
  refine y_iload (pc' := 8) hB dc_L_add_6 rfl 3 rfl ?_
  refine y_gV (c := 0) (ci := 0) (As := [.int (a), .long (b), .int (c)]) (rest := [.int (nI (0)), .ref (o.G.ad (31))]) (pc' := 11) hB (hE.fit (by omega) (by decide)) (hE.rm (by omega) (by omega)) (H) mm_B_add q_133 q_134 q_135 (by decide) rfl rfl dc_L_add_8 rfl rfl rfl (Nat.le_of_ble_eq_true rfl) (fun v S' hpost => ?_)
  obtain ⟨b0, rfl, hP⟩ := hpost
  show yW o (S') 11 [(0, .ref (o.G.ad (0))), (1, .int (a)), (2, .long (b)), (4, .int (c)), (5, .ref (o.G.ad (31)))] [.int (b0), .int (nI (0)), .ref (o.G.ad (31))]
  refine y_i2l (v := Int32.toInt64 (b0)) (pc' := 12) hB dc_L_add_11 rfl rfl ?_
  refine y_last (c := 31) (n := 1) (j := 0) (pc' := 13) hB dc_L_add_12 rfl (by decide) rfl (by omega) (by decide) ?_
  refine y_goto (tg := 24) hB dc_L_add_13 rfl ?_
  refine y_iconst (v := nI 0) (pc' := 25) hB dc_L_add_24 rfl rfl ?_
  exact y_hret hB hE (by omega) (by omega) dc_L_add_25 ⟨rfl, _, S', hP, rfl⟩
set_option maxHeartbeats 4000000 in
set_option maxRecDepth 100000 in
theorem hp_add_1 (l : Launch) (g : YG) (S : YS) (a : Int32) (b : Int64) (c : Int32) (lev : Nat) (hlev : lev ≤ 30) (P : YS → Prop) (H : yX l mn_B_add mb_B_add 6 (some .int) lev g [.ref (g.ad (0)), .int (a), .long (b), .int (c)] S yXI P) : yHC l mn_L_add mb_L_add 7 (some .int) [(0, 13, 16, 13), (0, 13, 20, 15)] 32 g [.ref (g.ad (0)), .int (a), .long (b), .int (c), .ref (g.ad (31))] S (fun v S' => v = some (.int (nI 1)) ∧ P S') := by
  refine yHC_of (by decide) (Nat.le_of_ble_eq_true rfl) ?_
  intro o hl hg hz1 hz2 hB0 hE
  subst hl
  subst hg
  have hB : yB o mb_L_add "OrderBenchLaw" := hB0
  have hm := hE.1
  show yW o (S) 0 [(0, .ref (o.G.ad (0))), (1, .int (a)), (2, .long (b)), (4, .int (c)), (5, .ref (o.G.ad (31)))] []
  refine y_aload (pc' := 2) hB dc_L_add_0 rfl 4 rfl ?_
  refine y_iconst (v := nI 0) (pc' := 3) hB dc_L_add_2 rfl rfl ?_
  refine y_aload_n (pc' := 4) hB dc_L_add_3 rfl rfl 0 rfl ?_
  refine y_iload_n (pc' := 5) hB dc_L_add_4 rfl rfl 1 rfl ?_
  refine y_lload_n (pc' := 6) hB dc_L_add_5 rfl rfl 2 rfl ?_
  refine y_iload (pc' := 8) hB dc_L_add_6 rfl 3 rfl ?_
  refine y_xV (c := 0) (ci := 0) (As := [.int (a), .long (b), .int (c)]) (rest := [.int (nI (0)), .ref (o.G.ad (31))]) hB (hE.fit (by omega) (by decide)) (hE.rm (by omega) (by omega)) (H) mm_B_add q_133 q_134 q_135 (by decide) rfl rfl dc_L_add_8 rfl rfl (Nat.le_of_ble_eq_true rfl) (fun S' hpost => ?_)
  exact y_code (pre := []) (suf := [(0, 13, 20, 15)]) (s0 := 0) (e0 := 13) (hp := 16) (ct := 13) (i := 6) (c := 1) hB hE hz1 hz2 rfl (by decide) (by decide) (by decide) (fun z hz => nomatch hz) q_131 q_143 (by decide) dc_L_add_16 dc_L_add_18 dc_L_add_19 ⟨rfl, hpost⟩
set_option maxHeartbeats 4000000 in
set_option maxRecDepth 100000 in
theorem hp_add_2 (l : Launch) (g : YG) (S : YS) (a : Int32) (b : Int64) (c : Int32) (lev : Nat) (hlev : lev ≤ 30) (P : YS → Prop) (H : yX l mn_B_add mb_B_add 6 (some .int) lev g [.ref (g.ad (0)), .int (a), .long (b), .int (c)] S yXS P) : yHC l mn_L_add mb_L_add 7 (some .int) [(0, 13, 16, 13), (0, 13, 20, 15)] 32 g [.ref (g.ad (0)), .int (a), .long (b), .int (c), .ref (g.ad (31))] S (fun v S' => v = some (.int (nI 2)) ∧ P S') := by
  refine yHC_of (by decide) (Nat.le_of_ble_eq_true rfl) ?_
  intro o hl hg hz1 hz2 hB0 hE
  subst hl
  subst hg
  have hB : yB o mb_L_add "OrderBenchLaw" := hB0
  have hm := hE.1
  show yW o (S) 0 [(0, .ref (o.G.ad (0))), (1, .int (a)), (2, .long (b)), (4, .int (c)), (5, .ref (o.G.ad (31)))] []
  refine y_aload (pc' := 2) hB dc_L_add_0 rfl 4 rfl ?_
  refine y_iconst (v := nI 0) (pc' := 3) hB dc_L_add_2 rfl rfl ?_
  refine y_aload_n (pc' := 4) hB dc_L_add_3 rfl rfl 0 rfl ?_
  refine y_iload_n (pc' := 5) hB dc_L_add_4 rfl rfl 1 rfl ?_
  refine y_lload_n (pc' := 6) hB dc_L_add_5 rfl rfl 2 rfl ?_
  refine y_iload (pc' := 8) hB dc_L_add_6 rfl 3 rfl ?_
  refine y_xV (c := 0) (ci := 0) (As := [.int (a), .long (b), .int (c)]) (rest := [.int (nI (0)), .ref (o.G.ad (31))]) hB (hE.fit (by omega) (by decide)) (hE.rm (by omega) (by omega)) (H) mm_B_add q_133 q_134 q_135 (by decide) rfl rfl dc_L_add_8 rfl rfl (Nat.le_of_ble_eq_true rfl) (fun S' hpost => ?_)
  exact y_code (pre := [(0, 13, 16, 13)]) (suf := []) (s0 := 0) (e0 := 13) (hp := 20) (ct := 15) (i := 6) (c := 2) hB hE hz1 hz2 rfl (by decide) (by decide) (by decide) (fun z hz => by rw [List.mem_singleton.mp hz]; exact ⟨by decide, "java/lang/IndexOutOfBoundsException", q_131, by decide +kernel⟩) q_132 q_211 (by decide) dc_L_add_20 dc_L_add_22 dc_L_add_23 ⟨rfl, hpost⟩
set_option maxHeartbeats 4000000 in
set_option maxRecDepth 100000 in
theorem hp_fill_0 (l : Launch) (g : YG) (S : YS) (a : Int32) (b : Int32) (c : Int32) (d : Int64) (e : Int32) (lev : Nat) (hlev : lev ≤ 30) (P : YS → Prop) (H : yC l mn_B_fill mb_B_fill 9 none lev g [.ref (g.ad (0)), .int (a), .int (b), .int (c), .long (d), .int (e)] S (fun v S' => v = none ∧ P S')) : yHC l mn_L_fill mb_L_fill 8 (some .int) [(0, 11, 14, 13), (0, 11, 18, 21)] 32 g [.ref (g.ad (0)), .int (a), .int (b), .int (c), .long (d), .int (e)] S (fun v S' => v = some (.int (nI 0)) ∧ P S') := by
  refine yHC_of (by decide) (Nat.le_of_ble_eq_true rfl) ?_
  intro o hl hg hz1 hz2 hB0 hE
  subst hl
  subst hg
  have hB : yB o mb_L_fill "OrderBenchLaw" := hB0
  have hm := hE.1
  show yW o (S) 0 [(0, .ref (o.G.ad (0))), (1, .int (a)), (2, .int (b)), (3, .int (c)), (4, .long (d)), (6, .int (e))] []
  refine y_aload_n (pc' := 1) hB dc_L_fill_0 rfl rfl 0 rfl ?_
  refine y_iload_n (pc' := 2) hB dc_L_fill_1 rfl rfl 1 rfl ?_
  refine y_iload_n (pc' := 3) hB dc_L_fill_2 rfl rfl 2 rfl ?_
  refine y_iload_n (pc' := 4) hB dc_L_fill_3 rfl rfl 3 rfl ?_
  refine y_lload (pc' := 6) hB dc_L_fill_4 rfl 4 rfl ?_
  refine y_iload (pc' := 8) hB dc_L_fill_6 rfl 5 rfl ?_
  refine y_gV (c := 0) (ci := 0) (As := [.int (a), .int (b), .int (c), .long (d), .int (e)]) (rest := []) (pc' := 11) hB (hE.fit (by omega) (by decide)) (hE.rm (by omega) (by omega)) (H) mm_B_fill q_233 q_234 q_235 (by decide) rfl rfl dc_L_fill_8 rfl rfl rfl (Nat.le_of_ble_eq_true rfl) (fun v S' hpost => ?_)
  obtain ⟨rfl, hP⟩ := hpost
  show yW o (S') 11 [(0, .ref (o.G.ad (0))), (1, .int (a)), (2, .int (b)), (3, .int (c)), (4, .long (d)), (6, .int (e))] []
  refine y_goto (tg := 22) hB dc_L_fill_11 rfl ?_
  refine y_iconst (v := nI 0) (pc' := 23) hB dc_L_fill_22 rfl rfl ?_
  exact y_hret hB hE (by omega) (by omega) dc_L_fill_23 ⟨rfl, hP⟩
set_option maxHeartbeats 4000000 in
set_option maxRecDepth 100000 in
theorem hp_fill_1 (l : Launch) (g : YG) (S : YS) (a : Int32) (b : Int32) (c : Int32) (d : Int64) (e : Int32) (lev : Nat) (hlev : lev ≤ 30) (P : YS → Prop) (H : yX l mn_B_fill mb_B_fill 9 none lev g [.ref (g.ad (0)), .int (a), .int (b), .int (c), .long (d), .int (e)] S yXI P) : yHC l mn_L_fill mb_L_fill 8 (some .int) [(0, 11, 14, 13), (0, 11, 18, 21)] 32 g [.ref (g.ad (0)), .int (a), .int (b), .int (c), .long (d), .int (e)] S (fun v S' => v = some (.int (nI 1)) ∧ P S') := by
  refine yHC_of (by decide) (Nat.le_of_ble_eq_true rfl) ?_
  intro o hl hg hz1 hz2 hB0 hE
  subst hl
  subst hg
  have hB : yB o mb_L_fill "OrderBenchLaw" := hB0
  have hm := hE.1
  show yW o (S) 0 [(0, .ref (o.G.ad (0))), (1, .int (a)), (2, .int (b)), (3, .int (c)), (4, .long (d)), (6, .int (e))] []
  refine y_aload_n (pc' := 1) hB dc_L_fill_0 rfl rfl 0 rfl ?_
  refine y_iload_n (pc' := 2) hB dc_L_fill_1 rfl rfl 1 rfl ?_
  refine y_iload_n (pc' := 3) hB dc_L_fill_2 rfl rfl 2 rfl ?_
  refine y_iload_n (pc' := 4) hB dc_L_fill_3 rfl rfl 3 rfl ?_
  refine y_lload (pc' := 6) hB dc_L_fill_4 rfl 4 rfl ?_
  refine y_iload (pc' := 8) hB dc_L_fill_6 rfl 5 rfl ?_
  refine y_xV (c := 0) (ci := 0) (As := [.int (a), .int (b), .int (c), .long (d), .int (e)]) (rest := []) hB (hE.fit (by omega) (by decide)) (hE.rm (by omega) (by omega)) (H) mm_B_fill q_233 q_234 q_235 (by decide) rfl rfl dc_L_fill_8 rfl rfl (Nat.le_of_ble_eq_true rfl) (fun S' hpost => ?_)
  exact y_code (pre := []) (suf := [(0, 11, 18, 21)]) (s0 := 0) (e0 := 11) (hp := 14) (ct := 13) (i := 7) (c := 1) hB hE hz1 hz2 rfl (by decide) (by decide) (by decide) (fun z hz => nomatch hz) q_131 q_143 (by decide) dc_L_fill_14 dc_L_fill_16 dc_L_fill_17 ⟨rfl, hpost⟩
set_option maxHeartbeats 4000000 in
set_option maxRecDepth 100000 in
theorem hp_fill_2 (l : Launch) (g : YG) (S : YS) (a : Int32) (b : Int32) (c : Int32) (d : Int64) (e : Int32) (lev : Nat) (hlev : lev ≤ 30) (P : YS → Prop) (H : yX l mn_B_fill mb_B_fill 9 none lev g [.ref (g.ad (0)), .int (a), .int (b), .int (c), .long (d), .int (e)] S yXA P) : yHC l mn_L_fill mb_L_fill 8 (some .int) [(0, 11, 14, 13), (0, 11, 18, 21)] 32 g [.ref (g.ad (0)), .int (a), .int (b), .int (c), .long (d), .int (e)] S (fun v S' => v = some (.int (nI 2)) ∧ P S') := by
  refine yHC_of (by decide) (Nat.le_of_ble_eq_true rfl) ?_
  intro o hl hg hz1 hz2 hB0 hE
  subst hl
  subst hg
  have hB : yB o mb_L_fill "OrderBenchLaw" := hB0
  have hm := hE.1
  show yW o (S) 0 [(0, .ref (o.G.ad (0))), (1, .int (a)), (2, .int (b)), (3, .int (c)), (4, .long (d)), (6, .int (e))] []
  refine y_aload_n (pc' := 1) hB dc_L_fill_0 rfl rfl 0 rfl ?_
  refine y_iload_n (pc' := 2) hB dc_L_fill_1 rfl rfl 1 rfl ?_
  refine y_iload_n (pc' := 3) hB dc_L_fill_2 rfl rfl 2 rfl ?_
  refine y_iload_n (pc' := 4) hB dc_L_fill_3 rfl rfl 3 rfl ?_
  refine y_lload (pc' := 6) hB dc_L_fill_4 rfl 4 rfl ?_
  refine y_iload (pc' := 8) hB dc_L_fill_6 rfl 5 rfl ?_
  refine y_xV (c := 0) (ci := 0) (As := [.int (a), .int (b), .int (c), .long (d), .int (e)]) (rest := []) hB (hE.fit (by omega) (by decide)) (hE.rm (by omega) (by omega)) (H) mm_B_fill q_233 q_234 q_235 (by decide) rfl rfl dc_L_fill_8 rfl rfl (Nat.le_of_ble_eq_true rfl) (fun S' hpost => ?_)
  exact y_code (pre := [(0, 11, 14, 13)]) (suf := []) (s0 := 0) (e0 := 11) (hp := 18) (ct := 21) (i := 7) (c := 2) hB hE hz1 hz2 rfl (by decide) (by decide) (by decide) (fun z hz => by rw [List.mem_singleton.mp hz]; exact ⟨by decide, "java/lang/IndexOutOfBoundsException", q_131, by decide +kernel⟩) q_232 q_239 (by decide) dc_L_fill_18 dc_L_fill_20 dc_L_fill_21 ⟨rfl, hpost⟩
set_option maxHeartbeats 4000000 in
set_option maxRecDepth 100000 in
theorem hp_cut_0 (l : Launch) (g : YG) (S : YS) (a : Int32) (b : Int32) (lev : Nat) (hlev : lev ≤ 30) (P : YS → Prop) (H : yC l mn_B_cut mb_B_cut 4 none lev g [.ref (g.ad (0)), .int (a), .int (b)] S (fun v S' => v = none ∧ P S')) : yHC l mn_L_cut mb_L_cut 4 (some .int) [(0, 6, 9, 13), (0, 6, 12, 21)] 32 g [.ref (g.ad (0)), .int (a), .int (b)] S (fun v S' => v = some (.int (nI 0)) ∧ P S') := by
  refine yHC_of (by decide) (Nat.le_of_ble_eq_true rfl) ?_
  intro o hl hg hz1 hz2 hB0 hE
  subst hl
  subst hg
  have hB : yB o mb_L_cut "OrderBenchLaw" := hB0
  have hm := hE.1
  show yW o (S) 0 [(0, .ref (o.G.ad (0))), (1, .int (a)), (2, .int (b))] []
  refine y_aload_n (pc' := 1) hB dc_L_cut_0 rfl rfl 0 rfl ?_
  refine y_iload_n (pc' := 2) hB dc_L_cut_1 rfl rfl 1 rfl ?_
  refine y_iload_n (pc' := 3) hB dc_L_cut_2 rfl rfl 2 rfl ?_
  refine y_gV (c := 0) (ci := 0) (As := [.int (a), .int (b)]) (rest := []) (pc' := 6) hB (hE.fit (by omega) (by decide)) (hE.rm (by omega) (by omega)) (H) mm_B_cut q_271 q_272 q_273 (by decide) rfl rfl dc_L_cut_3 rfl rfl rfl (Nat.le_of_ble_eq_true rfl) (fun v S' hpost => ?_)
  obtain ⟨rfl, hP⟩ := hpost
  show yW o (S') 6 [(0, .ref (o.G.ad (0))), (1, .int (a)), (2, .int (b))] []
  refine y_goto (tg := 15) hB dc_L_cut_6 rfl ?_
  refine y_iconst (v := nI 0) (pc' := 16) hB dc_L_cut_15 rfl rfl ?_
  exact y_hret hB hE (by omega) (by omega) dc_L_cut_16 ⟨rfl, hP⟩
set_option maxHeartbeats 4000000 in
set_option maxRecDepth 100000 in
theorem hp_cut_1 (l : Launch) (g : YG) (S : YS) (a : Int32) (b : Int32) (lev : Nat) (hlev : lev ≤ 30) (P : YS → Prop) (H : yX l mn_B_cut mb_B_cut 4 none lev g [.ref (g.ad (0)), .int (a), .int (b)] S yXI P) : yHC l mn_L_cut mb_L_cut 4 (some .int) [(0, 6, 9, 13), (0, 6, 12, 21)] 32 g [.ref (g.ad (0)), .int (a), .int (b)] S (fun v S' => v = some (.int (nI 1)) ∧ P S') := by
  refine yHC_of (by decide) (Nat.le_of_ble_eq_true rfl) ?_
  intro o hl hg hz1 hz2 hB0 hE
  subst hl
  subst hg
  have hB : yB o mb_L_cut "OrderBenchLaw" := hB0
  have hm := hE.1
  show yW o (S) 0 [(0, .ref (o.G.ad (0))), (1, .int (a)), (2, .int (b))] []
  refine y_aload_n (pc' := 1) hB dc_L_cut_0 rfl rfl 0 rfl ?_
  refine y_iload_n (pc' := 2) hB dc_L_cut_1 rfl rfl 1 rfl ?_
  refine y_iload_n (pc' := 3) hB dc_L_cut_2 rfl rfl 2 rfl ?_
  refine y_xV (c := 0) (ci := 0) (As := [.int (a), .int (b)]) (rest := []) hB (hE.fit (by omega) (by decide)) (hE.rm (by omega) (by omega)) (H) mm_B_cut q_271 q_272 q_273 (by decide) rfl rfl dc_L_cut_3 rfl rfl (Nat.le_of_ble_eq_true rfl) (fun S' hpost => ?_)
  exact y_code_n (pre := []) (suf := [(0, 6, 12, 21)]) (s0 := 0) (e0 := 6) (hp := 9) (ct := 13) (i := 3) (c := 1) hB hE hz1 hz2 rfl (by decide) (by decide) (by decide) (fun z hz => nomatch hz) q_131 q_143 (by decide) dc_L_cut_9 dc_L_cut_10 dc_L_cut_11 ⟨rfl, hpost⟩
set_option maxHeartbeats 4000000 in
set_option maxRecDepth 100000 in
theorem hp_cut_2 (l : Launch) (g : YG) (S : YS) (a : Int32) (b : Int32) (lev : Nat) (hlev : lev ≤ 30) (P : YS → Prop) (H : yX l mn_B_cut mb_B_cut 4 none lev g [.ref (g.ad (0)), .int (a), .int (b)] S yXA P) : yHC l mn_L_cut mb_L_cut 4 (some .int) [(0, 6, 9, 13), (0, 6, 12, 21)] 32 g [.ref (g.ad (0)), .int (a), .int (b)] S (fun v S' => v = some (.int (nI 2)) ∧ P S') := by
  refine yHC_of (by decide) (Nat.le_of_ble_eq_true rfl) ?_
  intro o hl hg hz1 hz2 hB0 hE
  subst hl
  subst hg
  have hB : yB o mb_L_cut "OrderBenchLaw" := hB0
  have hm := hE.1
  show yW o (S) 0 [(0, .ref (o.G.ad (0))), (1, .int (a)), (2, .int (b))] []
  refine y_aload_n (pc' := 1) hB dc_L_cut_0 rfl rfl 0 rfl ?_
  refine y_iload_n (pc' := 2) hB dc_L_cut_1 rfl rfl 1 rfl ?_
  refine y_iload_n (pc' := 3) hB dc_L_cut_2 rfl rfl 2 rfl ?_
  refine y_xV (c := 0) (ci := 0) (As := [.int (a), .int (b)]) (rest := []) hB (hE.fit (by omega) (by decide)) (hE.rm (by omega) (by omega)) (H) mm_B_cut q_271 q_272 q_273 (by decide) rfl rfl dc_L_cut_3 rfl rfl (Nat.le_of_ble_eq_true rfl) (fun S' hpost => ?_)
  exact y_code_n (pre := [(0, 6, 9, 13)]) (suf := []) (s0 := 0) (e0 := 6) (hp := 12) (ct := 21) (i := 3) (c := 2) hB hE hz1 hz2 rfl (by decide) (by decide) (by decide) (fun z hz => by rw [List.mem_singleton.mp hz]; exact ⟨by decide, "java/lang/IndexOutOfBoundsException", q_131, by decide +kernel⟩) q_232 q_239 (by decide) dc_L_cut_12 dc_L_cut_13 dc_L_cut_14 ⟨rfl, hpost⟩
set_option maxHeartbeats 4000000 in
set_option maxRecDepth 100000 in
theorem hp_swap_0 (l : Launch) (g : YG) (S : YS) (a : Int32) (b : Int32) (c : Int32) (lev : Nat) (hlev : lev ≤ 30) (P : YS → Prop) (H : yC l mn_B_swap mb_B_swap 5 none lev g [.ref (g.ad (0)), .int (a), .int (b), .int (c)] S (fun v S' => v = none ∧ P S')) : yHC l mn_L_swap mb_L_swap 5 (some .int) [(0, 7, 10, 13)] 32 g [.ref (g.ad (0)), .int (a), .int (b), .int (c)] S (fun v S' => v = some (.int (nI 0)) ∧ P S') := by
  refine yHC_of (by decide) (Nat.le_of_ble_eq_true rfl) ?_
  intro o hl hg hz1 hz2 hB0 hE
  subst hl
  subst hg
  have hB : yB o mb_L_swap "OrderBenchLaw" := hB0
  have hm := hE.1
  show yW o (S) 0 [(0, .ref (o.G.ad (0))), (1, .int (a)), (2, .int (b)), (3, .int (c))] []
  refine y_aload_n (pc' := 1) hB dc_L_swap_0 rfl rfl 0 rfl ?_
  refine y_iload_n (pc' := 2) hB dc_L_swap_1 rfl rfl 1 rfl ?_
  refine y_iload_n (pc' := 3) hB dc_L_swap_2 rfl rfl 2 rfl ?_
  refine y_iload_n (pc' := 4) hB dc_L_swap_3 rfl rfl 3 rfl ?_
  refine y_gV (c := 0) (ci := 0) (As := [.int (a), .int (b), .int (c)]) (rest := []) (pc' := 7) hB (hE.fit (by omega) (by decide)) (hE.rm (by omega) (by omega)) (H) mm_B_swap q_279 q_280 q_281 (by decide) rfl rfl dc_L_swap_4 rfl rfl rfl (Nat.le_of_ble_eq_true rfl) (fun v S' hpost => ?_)
  obtain ⟨rfl, hP⟩ := hpost
  show yW o (S') 7 [(0, .ref (o.G.ad (0))), (1, .int (a)), (2, .int (b)), (3, .int (c))] []
  refine y_goto (tg := 14) hB dc_L_swap_7 rfl ?_
  refine y_iconst (v := nI 0) (pc' := 15) hB dc_L_swap_14 rfl rfl ?_
  exact y_hret hB hE (by omega) (by omega) dc_L_swap_15 ⟨rfl, hP⟩
set_option maxHeartbeats 4000000 in
set_option maxRecDepth 100000 in
theorem hp_swap_1 (l : Launch) (g : YG) (S : YS) (a : Int32) (b : Int32) (c : Int32) (lev : Nat) (hlev : lev ≤ 30) (P : YS → Prop) (H : yX l mn_B_swap mb_B_swap 5 none lev g [.ref (g.ad (0)), .int (a), .int (b), .int (c)] S yXI P) : yHC l mn_L_swap mb_L_swap 5 (some .int) [(0, 7, 10, 13)] 32 g [.ref (g.ad (0)), .int (a), .int (b), .int (c)] S (fun v S' => v = some (.int (nI 1)) ∧ P S') := by
  refine yHC_of (by decide) (Nat.le_of_ble_eq_true rfl) ?_
  intro o hl hg hz1 hz2 hB0 hE
  subst hl
  subst hg
  have hB : yB o mb_L_swap "OrderBenchLaw" := hB0
  have hm := hE.1
  show yW o (S) 0 [(0, .ref (o.G.ad (0))), (1, .int (a)), (2, .int (b)), (3, .int (c))] []
  refine y_aload_n (pc' := 1) hB dc_L_swap_0 rfl rfl 0 rfl ?_
  refine y_iload_n (pc' := 2) hB dc_L_swap_1 rfl rfl 1 rfl ?_
  refine y_iload_n (pc' := 3) hB dc_L_swap_2 rfl rfl 2 rfl ?_
  refine y_iload_n (pc' := 4) hB dc_L_swap_3 rfl rfl 3 rfl ?_
  refine y_xV (c := 0) (ci := 0) (As := [.int (a), .int (b), .int (c)]) (rest := []) hB (hE.fit (by omega) (by decide)) (hE.rm (by omega) (by omega)) (H) mm_B_swap q_279 q_280 q_281 (by decide) rfl rfl dc_L_swap_4 rfl rfl (Nat.le_of_ble_eq_true rfl) (fun S' hpost => ?_)
  exact y_code (pre := []) (suf := []) (s0 := 0) (e0 := 7) (hp := 10) (ct := 13) (i := 4) (c := 1) hB hE hz1 hz2 rfl (by decide) (by decide) (by decide) (fun z hz => nomatch hz) q_131 q_143 (by decide) dc_L_swap_10 dc_L_swap_12 dc_L_swap_13 ⟨rfl, hpost⟩
set_option maxHeartbeats 4000000 in
set_option maxRecDepth 100000 in
theorem hp_number_0 (l : Launch) (g : YG) (S : YS) (a : Int32) (lev : Nat) (hlev : lev ≤ 30) (P : YS → Prop) (H : yC l mn_B_number mb_B_number 2 none lev g [.ref (g.ad (0)), .int (a)] S (fun v S' => v = none ∧ P S')) : yHC l mn_L_number mb_L_number 3 (some .int) [(0, 5, 8, 13)] 32 g [.ref (g.ad (0)), .int (a)] S (fun v S' => v = some (.int (nI 0)) ∧ P S') := by
  refine yHC_of (by decide) (Nat.le_of_ble_eq_true rfl) ?_
  intro o hl hg hz1 hz2 hB0 hE
  subst hl
  subst hg
  have hB : yB o mb_L_number "OrderBenchLaw" := hB0
  have hm := hE.1
  show yW o (S) 0 [(0, .ref (o.G.ad (0))), (1, .int (a))] []
  refine y_aload_n (pc' := 1) hB dc_L_number_0 rfl rfl 0 rfl ?_
  refine y_iload_n (pc' := 2) hB dc_L_number_1 rfl rfl 1 rfl ?_
  refine y_gV (c := 0) (ci := 0) (As := [.int (a)]) (rest := []) (pc' := 5) hB (hE.fit (by omega) (by decide)) (hE.rm (by omega) (by omega)) (H) mm_B_number q_299 q_300 q_301 (by decide) rfl rfl dc_L_number_2 rfl rfl rfl (Nat.le_of_ble_eq_true rfl) (fun v S' hpost => ?_)
  obtain ⟨rfl, hP⟩ := hpost
  show yW o (S') 5 [(0, .ref (o.G.ad (0))), (1, .int (a))] []
  refine y_goto (tg := 11) hB dc_L_number_5 rfl ?_
  refine y_iconst (v := nI 0) (pc' := 12) hB dc_L_number_11 rfl rfl ?_
  exact y_hret hB hE (by omega) (by omega) dc_L_number_12 ⟨rfl, hP⟩
set_option maxHeartbeats 4000000 in
set_option maxRecDepth 100000 in
theorem hp_number_1 (l : Launch) (g : YG) (S : YS) (a : Int32) (lev : Nat) (hlev : lev ≤ 30) (P : YS → Prop) (H : yX l mn_B_number mb_B_number 2 none lev g [.ref (g.ad (0)), .int (a)] S yXI P) : yHC l mn_L_number mb_L_number 3 (some .int) [(0, 5, 8, 13)] 32 g [.ref (g.ad (0)), .int (a)] S (fun v S' => v = some (.int (nI 1)) ∧ P S') := by
  refine yHC_of (by decide) (Nat.le_of_ble_eq_true rfl) ?_
  intro o hl hg hz1 hz2 hB0 hE
  subst hl
  subst hg
  have hB : yB o mb_L_number "OrderBenchLaw" := hB0
  have hm := hE.1
  show yW o (S) 0 [(0, .ref (o.G.ad (0))), (1, .int (a))] []
  refine y_aload_n (pc' := 1) hB dc_L_number_0 rfl rfl 0 rfl ?_
  refine y_iload_n (pc' := 2) hB dc_L_number_1 rfl rfl 1 rfl ?_
  refine y_xV (c := 0) (ci := 0) (As := [.int (a)]) (rest := []) hB (hE.fit (by omega) (by decide)) (hE.rm (by omega) (by omega)) (H) mm_B_number q_299 q_300 q_301 (by decide) rfl rfl dc_L_number_2 rfl rfl (Nat.le_of_ble_eq_true rfl) (fun S' hpost => ?_)
  exact y_code_n (pre := []) (suf := []) (s0 := 0) (e0 := 5) (hp := 8) (ct := 13) (i := 2) (c := 1) hB hE hz1 hz2 rfl (by decide) (by decide) (by decide) (fun z hz => nomatch hz) q_131 q_143 (by decide) dc_L_number_8 dc_L_number_9 dc_L_number_10 ⟨rfl, hpost⟩
set_option maxHeartbeats 4000000 in
set_option maxRecDepth 100000 in
theorem hp_copy_0 (l : Launch) (g : YG) (S : YS) (a : Int32) (b : Int32) (lev : Nat) (hlev : lev ≤ 30) (P : YS → Prop) (H : yC l mn_B_copy mb_B_copy 5 none lev g [.ref (g.ad (0)), .int (a), .int (b)] S (fun v S' => v = none ∧ P S')) : yHC l mn_L_copy mb_L_copy 4 (some .int) [(0, 6, 9, 13)] 32 g [.ref (g.ad (0)), .int (a), .int (b)] S (fun v S' => v = some (.int (nI 0)) ∧ P S') := by
  refine yHC_of (by decide) (Nat.le_of_ble_eq_true rfl) ?_
  intro o hl hg hz1 hz2 hB0 hE
  subst hl
  subst hg
  have hB : yB o mb_L_copy "OrderBenchLaw" := hB0
  have hm := hE.1
  show yW o (S) 0 [(0, .ref (o.G.ad (0))), (1, .int (a)), (2, .int (b))] []
  refine y_aload_n (pc' := 1) hB dc_L_copy_0 rfl rfl 0 rfl ?_
  refine y_iload_n (pc' := 2) hB dc_L_copy_1 rfl rfl 1 rfl ?_
  refine y_iload_n (pc' := 3) hB dc_L_copy_2 rfl rfl 2 rfl ?_
  refine y_gV (c := 0) (ci := 0) (As := [.int (a), .int (b)]) (rest := []) (pc' := 6) hB (hE.fit (by omega) (by decide)) (hE.rm (by omega) (by omega)) (H) mm_B_copy q_306 q_307 q_308 (by decide) rfl rfl dc_L_copy_3 rfl rfl rfl (Nat.le_of_ble_eq_true rfl) (fun v S' hpost => ?_)
  obtain ⟨rfl, hP⟩ := hpost
  show yW o (S') 6 [(0, .ref (o.G.ad (0))), (1, .int (a)), (2, .int (b))] []
  refine y_goto (tg := 12) hB dc_L_copy_6 rfl ?_
  refine y_iconst (v := nI 0) (pc' := 13) hB dc_L_copy_12 rfl rfl ?_
  exact y_hret hB hE (by omega) (by omega) dc_L_copy_13 ⟨rfl, hP⟩
set_option maxHeartbeats 4000000 in
set_option maxRecDepth 100000 in
theorem hp_copy_1 (l : Launch) (g : YG) (S : YS) (a : Int32) (b : Int32) (lev : Nat) (hlev : lev ≤ 30) (P : YS → Prop) (H : yX l mn_B_copy mb_B_copy 5 none lev g [.ref (g.ad (0)), .int (a), .int (b)] S yXI P) : yHC l mn_L_copy mb_L_copy 4 (some .int) [(0, 6, 9, 13)] 32 g [.ref (g.ad (0)), .int (a), .int (b)] S (fun v S' => v = some (.int (nI 1)) ∧ P S') := by
  refine yHC_of (by decide) (Nat.le_of_ble_eq_true rfl) ?_
  intro o hl hg hz1 hz2 hB0 hE
  subst hl
  subst hg
  have hB : yB o mb_L_copy "OrderBenchLaw" := hB0
  have hm := hE.1
  show yW o (S) 0 [(0, .ref (o.G.ad (0))), (1, .int (a)), (2, .int (b))] []
  refine y_aload_n (pc' := 1) hB dc_L_copy_0 rfl rfl 0 rfl ?_
  refine y_iload_n (pc' := 2) hB dc_L_copy_1 rfl rfl 1 rfl ?_
  refine y_iload_n (pc' := 3) hB dc_L_copy_2 rfl rfl 2 rfl ?_
  refine y_xV (c := 0) (ci := 0) (As := [.int (a), .int (b)]) (rest := []) hB (hE.fit (by omega) (by decide)) (hE.rm (by omega) (by omega)) (H) mm_B_copy q_306 q_307 q_308 (by decide) rfl rfl dc_L_copy_3 rfl rfl (Nat.le_of_ble_eq_true rfl) (fun S' hpost => ?_)
  exact y_code_n (pre := []) (suf := []) (s0 := 0) (e0 := 6) (hp := 9) (ct := 13) (i := 3) (c := 1) hB hE hz1 hz2 rfl (by decide) (by decide) (by decide) (fun z hz => nomatch hz) q_131 q_143 (by decide) dc_L_copy_9 dc_L_copy_10 dc_L_copy_11 ⟨rfl, hpost⟩
set_option maxHeartbeats 4000000 in
set_option maxRecDepth 100000 in
theorem hp_size_0 (l : Launch) (g : YG) (S : YS) (a : Int32) (lev : Nat) (hlev : lev ≤ 30) (P : Int32 → YS → Prop) (H : yC l mn_B_size mb_B_size 2 (some .int) lev g [.ref (g.ad (0)), .int (a)] S (fun v S' => ∃ b0 : Int32, v = some (.int b0) ∧ P b0 S')) : yHC l mn_L_size mb_L_size 4 (some .int) [(0, 9, 12, 13)] 32 g [.ref (g.ad (0)), .int (a), .ref (g.ad (31))] S (fun v S' => v = some (.int (nI 0)) ∧ ∃ (b0 : Int32) (S1 : YS), P b0 S1 ∧ S' = sL (S1) 31 (vp_updL (gL (S1) 31) 0 (Int32.toInt64 b0))) := by
  refine yHC_of (by decide) (Nat.le_of_ble_eq_true rfl) ?_
  intro o hl hg hz1 hz2 hB0 hE
  subst hl
  subst hg
  have hB : yB o mb_L_size "OrderBenchLaw" := hB0
  have hm := hE.1
  show yW o (S) 0 [(0, .ref (o.G.ad (0))), (1, .int (a)), (2, .ref (o.G.ad (31)))] []
  refine y_aload_n (pc' := 1) hB dc_L_size_0 rfl rfl 2 rfl ?_
  refine y_iconst (v := nI 0) (pc' := 2) hB dc_L_size_1 rfl rfl ?_
  refine y_aload_n (pc' := 3) hB dc_L_size_2 rfl rfl 0 rfl ?_
  refine y_iload_n (pc' := 4) hB dc_L_size_3 rfl rfl 1 rfl ?_
  refine y_gV (c := 0) (ci := 0) (As := [.int (a)]) (rest := [.int (nI (0)), .ref (o.G.ad (31))]) (pc' := 7) hB (hE.fit (by omega) (by decide)) (hE.rm (by omega) (by omega)) (H) mm_B_size q_324 q_325 q_326 (by decide) rfl rfl dc_L_size_4 rfl rfl rfl (Nat.le_of_ble_eq_true rfl) (fun v S' hpost => ?_)
  obtain ⟨b0, rfl, hP⟩ := hpost
  show yW o (S') 7 [(0, .ref (o.G.ad (0))), (1, .int (a)), (2, .ref (o.G.ad (31)))] [.int (b0), .int (nI (0)), .ref (o.G.ad (31))]
  refine y_i2l (v := Int32.toInt64 (b0)) (pc' := 8) hB dc_L_size_7 rfl rfl ?_
  refine y_last (c := 31) (n := 1) (j := 0) (pc' := 9) hB dc_L_size_8 rfl (by decide) rfl (by omega) (by decide) ?_
  refine y_goto (tg := 15) hB dc_L_size_9 rfl ?_
  refine y_iconst (v := nI 0) (pc' := 16) hB dc_L_size_15 rfl rfl ?_
  exact y_hret hB hE (by omega) (by omega) dc_L_size_16 ⟨rfl, _, S', hP, rfl⟩
set_option maxHeartbeats 4000000 in
set_option maxRecDepth 100000 in
theorem hp_size_1 (l : Launch) (g : YG) (S : YS) (a : Int32) (lev : Nat) (hlev : lev ≤ 30) (P : YS → Prop) (H : yX l mn_B_size mb_B_size 2 (some .int) lev g [.ref (g.ad (0)), .int (a)] S yXI P) : yHC l mn_L_size mb_L_size 4 (some .int) [(0, 9, 12, 13)] 32 g [.ref (g.ad (0)), .int (a), .ref (g.ad (31))] S (fun v S' => v = some (.int (nI 1)) ∧ P S') := by
  refine yHC_of (by decide) (Nat.le_of_ble_eq_true rfl) ?_
  intro o hl hg hz1 hz2 hB0 hE
  subst hl
  subst hg
  have hB : yB o mb_L_size "OrderBenchLaw" := hB0
  have hm := hE.1
  show yW o (S) 0 [(0, .ref (o.G.ad (0))), (1, .int (a)), (2, .ref (o.G.ad (31)))] []
  refine y_aload_n (pc' := 1) hB dc_L_size_0 rfl rfl 2 rfl ?_
  refine y_iconst (v := nI 0) (pc' := 2) hB dc_L_size_1 rfl rfl ?_
  refine y_aload_n (pc' := 3) hB dc_L_size_2 rfl rfl 0 rfl ?_
  refine y_iload_n (pc' := 4) hB dc_L_size_3 rfl rfl 1 rfl ?_
  refine y_xV (c := 0) (ci := 0) (As := [.int (a)]) (rest := [.int (nI (0)), .ref (o.G.ad (31))]) hB (hE.fit (by omega) (by decide)) (hE.rm (by omega) (by omega)) (H) mm_B_size q_324 q_325 q_326 (by decide) rfl rfl dc_L_size_4 rfl rfl (Nat.le_of_ble_eq_true rfl) (fun S' hpost => ?_)
  exact y_code_n (pre := []) (suf := []) (s0 := 0) (e0 := 9) (hp := 12) (ct := 13) (i := 3) (c := 1) hB hE hz1 hz2 rfl (by decide) (by decide) (by decide) (fun z hz => nomatch hz) q_131 q_143 (by decide) dc_L_size_12 dc_L_size_13 dc_L_size_14 ⟨rfl, hpost⟩
set_option maxHeartbeats 4000000 in
set_option maxRecDepth 100000 in
theorem hp_key_0 (l : Launch) (g : YG) (S : YS) (a : Int32) (b : Int32) (lev : Nat) (hlev : lev ≤ 30) (P : Int64 → YS → Prop) (H : yC l mn_B_key mb_B_key 4 (some .long) lev g [.ref (g.ad (0)), .int (a), .int (b)] S (fun v S' => ∃ b0 : Int64, v = some (.long b0) ∧ P b0 S')) : yHC l mn_L_key mb_L_key 5 (some .int) [(0, 9, 12, 13)] 32 g [.ref (g.ad (0)), .int (a), .int (b), .ref (g.ad (31))] S (fun v S' => v = some (.int (nI 0)) ∧ ∃ (b0 : Int64) (S1 : YS), P b0 S1 ∧ S' = sL (S1) 31 (vp_updL (gL (S1) 31) 0 (b0))) := by
  refine yHC_of (by decide) (Nat.le_of_ble_eq_true rfl) ?_
  intro o hl hg hz1 hz2 hB0 hE
  subst hl
  subst hg
  have hB : yB o mb_L_key "OrderBenchLaw" := hB0
  have hm := hE.1
  show yW o (S) 0 [(0, .ref (o.G.ad (0))), (1, .int (a)), (2, .int (b)), (3, .ref (o.G.ad (31)))] []
  refine y_aload_n (pc' := 1) hB dc_L_key_0 rfl rfl 3 rfl ?_
  refine y_iconst (v := nI 0) (pc' := 2) hB dc_L_key_1 rfl rfl ?_
  refine y_aload_n (pc' := 3) hB dc_L_key_2 rfl rfl 0 rfl ?_
  refine y_iload_n (pc' := 4) hB dc_L_key_3 rfl rfl 1 rfl ?_
  refine y_iload_n (pc' := 5) hB dc_L_key_4 rfl rfl 2 rfl ?_
  refine y_gV (c := 0) (ci := 0) (As := [.int (a), .int (b)]) (rest := [.int (nI (0)), .ref (o.G.ad (31))]) (pc' := 8) hB (hE.fit (by omega) (by decide)) (hE.rm (by omega) (by omega)) (H) mm_B_key q_331 q_332 q_333 (by decide) rfl rfl dc_L_key_5 rfl rfl rfl (Nat.le_of_ble_eq_true rfl) (fun v S' hpost => ?_)
  obtain ⟨b0, rfl, hP⟩ := hpost
  show yW o (S') 8 [(0, .ref (o.G.ad (0))), (1, .int (a)), (2, .int (b)), (3, .ref (o.G.ad (31)))] [.long (b0), .int (nI (0)), .ref (o.G.ad (31))]
  refine y_last (c := 31) (n := 1) (j := 0) (pc' := 9) hB dc_L_key_8 rfl (by decide) rfl (by omega) (by decide) ?_
  refine y_goto (tg := 16) hB dc_L_key_9 rfl ?_
  refine y_iconst (v := nI 0) (pc' := 17) hB dc_L_key_16 rfl rfl ?_
  exact y_hret hB hE (by omega) (by omega) dc_L_key_17 ⟨rfl, _, S', hP, rfl⟩
set_option maxHeartbeats 4000000 in
set_option maxRecDepth 100000 in
theorem hp_key_1 (l : Launch) (g : YG) (S : YS) (a : Int32) (b : Int32) (lev : Nat) (hlev : lev ≤ 30) (P : YS → Prop) (H : yX l mn_B_key mb_B_key 4 (some .long) lev g [.ref (g.ad (0)), .int (a), .int (b)] S yXI P) : yHC l mn_L_key mb_L_key 5 (some .int) [(0, 9, 12, 13)] 32 g [.ref (g.ad (0)), .int (a), .int (b), .ref (g.ad (31))] S (fun v S' => v = some (.int (nI 1)) ∧ P S') := by
  refine yHC_of (by decide) (Nat.le_of_ble_eq_true rfl) ?_
  intro o hl hg hz1 hz2 hB0 hE
  subst hl
  subst hg
  have hB : yB o mb_L_key "OrderBenchLaw" := hB0
  have hm := hE.1
  show yW o (S) 0 [(0, .ref (o.G.ad (0))), (1, .int (a)), (2, .int (b)), (3, .ref (o.G.ad (31)))] []
  refine y_aload_n (pc' := 1) hB dc_L_key_0 rfl rfl 3 rfl ?_
  refine y_iconst (v := nI 0) (pc' := 2) hB dc_L_key_1 rfl rfl ?_
  refine y_aload_n (pc' := 3) hB dc_L_key_2 rfl rfl 0 rfl ?_
  refine y_iload_n (pc' := 4) hB dc_L_key_3 rfl rfl 1 rfl ?_
  refine y_iload_n (pc' := 5) hB dc_L_key_4 rfl rfl 2 rfl ?_
  refine y_xV (c := 0) (ci := 0) (As := [.int (a), .int (b)]) (rest := [.int (nI (0)), .ref (o.G.ad (31))]) hB (hE.fit (by omega) (by decide)) (hE.rm (by omega) (by omega)) (H) mm_B_key q_331 q_332 q_333 (by decide) rfl rfl dc_L_key_5 rfl rfl (Nat.le_of_ble_eq_true rfl) (fun S' hpost => ?_)
  exact y_code (pre := []) (suf := []) (s0 := 0) (e0 := 9) (hp := 12) (ct := 13) (i := 4) (c := 1) hB hE hz1 hz2 rfl (by decide) (by decide) (by decide) (fun z hz => nomatch hz) q_131 q_143 (by decide) dc_L_key_12 dc_L_key_14 dc_L_key_15 ⟨rfl, hpost⟩
set_option maxHeartbeats 4000000 in
set_option maxRecDepth 100000 in
theorem hp_tag_0 (l : Launch) (g : YG) (S : YS) (a : Int32) (b : Int32) (lev : Nat) (hlev : lev ≤ 30) (P : Int32 → YS → Prop) (H : yC l mn_B_tag mb_B_tag 4 (some .int) lev g [.ref (g.ad (0)), .int (a), .int (b)] S (fun v S' => ∃ b0 : Int32, v = some (.int b0) ∧ P b0 S')) : yHC l mn_L_tag mb_L_tag 5 (some .int) [(0, 10, 13, 13)] 32 g [.ref (g.ad (0)), .int (a), .int (b), .ref (g.ad (31))] S (fun v S' => v = some (.int (nI 0)) ∧ ∃ (b0 : Int32) (S1 : YS), P b0 S1 ∧ S' = sL (S1) 31 (vp_updL (gL (S1) 31) 0 (Int32.toInt64 b0))) := by
  refine yHC_of (by decide) (Nat.le_of_ble_eq_true rfl) ?_
  intro o hl hg hz1 hz2 hB0 hE
  subst hl
  subst hg
  have hB : yB o mb_L_tag "OrderBenchLaw" := hB0
  have hm := hE.1
  show yW o (S) 0 [(0, .ref (o.G.ad (0))), (1, .int (a)), (2, .int (b)), (3, .ref (o.G.ad (31)))] []
  refine y_aload_n (pc' := 1) hB dc_L_tag_0 rfl rfl 3 rfl ?_
  refine y_iconst (v := nI 0) (pc' := 2) hB dc_L_tag_1 rfl rfl ?_
  refine y_aload_n (pc' := 3) hB dc_L_tag_2 rfl rfl 0 rfl ?_
  refine y_iload_n (pc' := 4) hB dc_L_tag_3 rfl rfl 1 rfl ?_
  refine y_iload_n (pc' := 5) hB dc_L_tag_4 rfl rfl 2 rfl ?_
  refine y_gV (c := 0) (ci := 0) (As := [.int (a), .int (b)]) (rest := [.int (nI (0)), .ref (o.G.ad (31))]) (pc' := 8) hB (hE.fit (by omega) (by decide)) (hE.rm (by omega) (by omega)) (H) mm_B_tag q_338 q_339 q_340 (by decide) rfl rfl dc_L_tag_5 rfl rfl rfl (Nat.le_of_ble_eq_true rfl) (fun v S' hpost => ?_)
  obtain ⟨b0, rfl, hP⟩ := hpost
  show yW o (S') 8 [(0, .ref (o.G.ad (0))), (1, .int (a)), (2, .int (b)), (3, .ref (o.G.ad (31)))] [.int (b0), .int (nI (0)), .ref (o.G.ad (31))]
  refine y_i2l (v := Int32.toInt64 (b0)) (pc' := 9) hB dc_L_tag_8 rfl rfl ?_
  refine y_last (c := 31) (n := 1) (j := 0) (pc' := 10) hB dc_L_tag_9 rfl (by decide) rfl (by omega) (by decide) ?_
  refine y_goto (tg := 17) hB dc_L_tag_10 rfl ?_
  refine y_iconst (v := nI 0) (pc' := 18) hB dc_L_tag_17 rfl rfl ?_
  exact y_hret hB hE (by omega) (by omega) dc_L_tag_18 ⟨rfl, _, S', hP, rfl⟩
set_option maxHeartbeats 4000000 in
set_option maxRecDepth 100000 in
theorem hp_tag_1 (l : Launch) (g : YG) (S : YS) (a : Int32) (b : Int32) (lev : Nat) (hlev : lev ≤ 30) (P : YS → Prop) (H : yX l mn_B_tag mb_B_tag 4 (some .int) lev g [.ref (g.ad (0)), .int (a), .int (b)] S yXI P) : yHC l mn_L_tag mb_L_tag 5 (some .int) [(0, 10, 13, 13)] 32 g [.ref (g.ad (0)), .int (a), .int (b), .ref (g.ad (31))] S (fun v S' => v = some (.int (nI 1)) ∧ P S') := by
  refine yHC_of (by decide) (Nat.le_of_ble_eq_true rfl) ?_
  intro o hl hg hz1 hz2 hB0 hE
  subst hl
  subst hg
  have hB : yB o mb_L_tag "OrderBenchLaw" := hB0
  have hm := hE.1
  show yW o (S) 0 [(0, .ref (o.G.ad (0))), (1, .int (a)), (2, .int (b)), (3, .ref (o.G.ad (31)))] []
  refine y_aload_n (pc' := 1) hB dc_L_tag_0 rfl rfl 3 rfl ?_
  refine y_iconst (v := nI 0) (pc' := 2) hB dc_L_tag_1 rfl rfl ?_
  refine y_aload_n (pc' := 3) hB dc_L_tag_2 rfl rfl 0 rfl ?_
  refine y_iload_n (pc' := 4) hB dc_L_tag_3 rfl rfl 1 rfl ?_
  refine y_iload_n (pc' := 5) hB dc_L_tag_4 rfl rfl 2 rfl ?_
  refine y_xV (c := 0) (ci := 0) (As := [.int (a), .int (b)]) (rest := [.int (nI (0)), .ref (o.G.ad (31))]) hB (hE.fit (by omega) (by decide)) (hE.rm (by omega) (by omega)) (H) mm_B_tag q_338 q_339 q_340 (by decide) rfl rfl dc_L_tag_5 rfl rfl (Nat.le_of_ble_eq_true rfl) (fun S' hpost => ?_)
  exact y_code (pre := []) (suf := []) (s0 := 0) (e0 := 10) (hp := 13) (ct := 13) (i := 4) (c := 1) hB hE hz1 hz2 rfl (by decide) (by decide) (by decide) (fun z hz => nomatch hz) q_131 q_143 (by decide) dc_L_tag_13 dc_L_tag_15 dc_L_tag_16 ⟨rfl, hpost⟩
set_option maxHeartbeats 4000000 in
set_option maxRecDepth 100000 in
theorem hp_sort_0 (l : Launch) (g : YG) (S : YS) (a : Int32) (b : Int32) (c : Int32) (lev : Nat) (hlev : lev ≤ 30) (P : YS → Prop) (H : yC l mn_B_sort mb_B_sort 5 none lev g [.ref (g.ad (0)), .int (a), .int (b), .int (c)] S (fun v S' => v = none ∧ P S')) : yHC l mn_L_sort mb_L_sort 5 (some .int) [(0, 7, 10, 13), (0, 7, 14, 21)] 32 g [.ref (g.ad (0)), .int (a), .int (b), .int (c)] S (fun v S' => v = some (.int (nI 0)) ∧ P S') := by
  refine yHC_of (by decide) (Nat.le_of_ble_eq_true rfl) ?_
  intro o hl hg hz1 hz2 hB0 hE
  subst hl
  subst hg
  have hB : yB o mb_L_sort "OrderBenchLaw" := hB0
  have hm := hE.1
  show yW o (S) 0 [(0, .ref (o.G.ad (0))), (1, .int (a)), (2, .int (b)), (3, .int (c))] []
  refine y_aload_n (pc' := 1) hB dc_L_sort_0 rfl rfl 0 rfl ?_
  refine y_iload_n (pc' := 2) hB dc_L_sort_1 rfl rfl 1 rfl ?_
  refine y_iload_n (pc' := 3) hB dc_L_sort_2 rfl rfl 2 rfl ?_
  refine y_iload_n (pc' := 4) hB dc_L_sort_3 rfl rfl 3 rfl ?_
  refine y_gV (c := 0) (ci := 0) (As := [.int (a), .int (b), .int (c)]) (rest := []) (pc' := 7) hB (hE.fit (by omega) (by decide)) (hE.rm (by omega) (by omega)) (H) mm_B_sort q_345 q_346 q_347 (by decide) rfl rfl dc_L_sort_4 rfl rfl rfl (Nat.le_of_ble_eq_true rfl) (fun v S' hpost => ?_)
  obtain ⟨rfl, hP⟩ := hpost
  show yW o (S') 7 [(0, .ref (o.G.ad (0))), (1, .int (a)), (2, .int (b)), (3, .int (c))] []
  refine y_goto (tg := 18) hB dc_L_sort_7 rfl ?_
  refine y_iconst (v := nI 0) (pc' := 19) hB dc_L_sort_18 rfl rfl ?_
  exact y_hret hB hE (by omega) (by omega) dc_L_sort_19 ⟨rfl, hP⟩
set_option maxHeartbeats 4000000 in
set_option maxRecDepth 100000 in
theorem hp_sort_1 (l : Launch) (g : YG) (S : YS) (a : Int32) (b : Int32) (c : Int32) (lev : Nat) (hlev : lev ≤ 30) (P : YS → Prop) (H : yX l mn_B_sort mb_B_sort 5 none lev g [.ref (g.ad (0)), .int (a), .int (b), .int (c)] S yXI P) : yHC l mn_L_sort mb_L_sort 5 (some .int) [(0, 7, 10, 13), (0, 7, 14, 21)] 32 g [.ref (g.ad (0)), .int (a), .int (b), .int (c)] S (fun v S' => v = some (.int (nI 1)) ∧ P S') := by
  refine yHC_of (by decide) (Nat.le_of_ble_eq_true rfl) ?_
  intro o hl hg hz1 hz2 hB0 hE
  subst hl
  subst hg
  have hB : yB o mb_L_sort "OrderBenchLaw" := hB0
  have hm := hE.1
  show yW o (S) 0 [(0, .ref (o.G.ad (0))), (1, .int (a)), (2, .int (b)), (3, .int (c))] []
  refine y_aload_n (pc' := 1) hB dc_L_sort_0 rfl rfl 0 rfl ?_
  refine y_iload_n (pc' := 2) hB dc_L_sort_1 rfl rfl 1 rfl ?_
  refine y_iload_n (pc' := 3) hB dc_L_sort_2 rfl rfl 2 rfl ?_
  refine y_iload_n (pc' := 4) hB dc_L_sort_3 rfl rfl 3 rfl ?_
  refine y_xV (c := 0) (ci := 0) (As := [.int (a), .int (b), .int (c)]) (rest := []) hB (hE.fit (by omega) (by decide)) (hE.rm (by omega) (by omega)) (H) mm_B_sort q_345 q_346 q_347 (by decide) rfl rfl dc_L_sort_4 rfl rfl (Nat.le_of_ble_eq_true rfl) (fun S' hpost => ?_)
  exact y_code (pre := []) (suf := [(0, 7, 14, 21)]) (s0 := 0) (e0 := 7) (hp := 10) (ct := 13) (i := 4) (c := 1) hB hE hz1 hz2 rfl (by decide) (by decide) (by decide) (fun z hz => nomatch hz) q_131 q_143 (by decide) dc_L_sort_10 dc_L_sort_12 dc_L_sort_13 ⟨rfl, hpost⟩
set_option maxHeartbeats 4000000 in
set_option maxRecDepth 100000 in
theorem hp_sort_2 (l : Launch) (g : YG) (S : YS) (a : Int32) (b : Int32) (c : Int32) (lev : Nat) (hlev : lev ≤ 30) (P : YS → Prop) (H : yX l mn_B_sort mb_B_sort 5 none lev g [.ref (g.ad (0)), .int (a), .int (b), .int (c)] S yXA P) : yHC l mn_L_sort mb_L_sort 5 (some .int) [(0, 7, 10, 13), (0, 7, 14, 21)] 32 g [.ref (g.ad (0)), .int (a), .int (b), .int (c)] S (fun v S' => v = some (.int (nI 2)) ∧ P S') := by
  refine yHC_of (by decide) (Nat.le_of_ble_eq_true rfl) ?_
  intro o hl hg hz1 hz2 hB0 hE
  subst hl
  subst hg
  have hB : yB o mb_L_sort "OrderBenchLaw" := hB0
  have hm := hE.1
  show yW o (S) 0 [(0, .ref (o.G.ad (0))), (1, .int (a)), (2, .int (b)), (3, .int (c))] []
  refine y_aload_n (pc' := 1) hB dc_L_sort_0 rfl rfl 0 rfl ?_
  refine y_iload_n (pc' := 2) hB dc_L_sort_1 rfl rfl 1 rfl ?_
  refine y_iload_n (pc' := 3) hB dc_L_sort_2 rfl rfl 2 rfl ?_
  refine y_iload_n (pc' := 4) hB dc_L_sort_3 rfl rfl 3 rfl ?_
  refine y_xV (c := 0) (ci := 0) (As := [.int (a), .int (b), .int (c)]) (rest := []) hB (hE.fit (by omega) (by decide)) (hE.rm (by omega) (by omega)) (H) mm_B_sort q_345 q_346 q_347 (by decide) rfl rfl dc_L_sort_4 rfl rfl (Nat.le_of_ble_eq_true rfl) (fun S' hpost => ?_)
  exact y_code (pre := [(0, 7, 10, 13)]) (suf := []) (s0 := 0) (e0 := 7) (hp := 14) (ct := 21) (i := 4) (c := 2) hB hE hz1 hz2 rfl (by decide) (by decide) (by decide) (fun z hz => by rw [List.mem_singleton.mp hz]; exact ⟨by decide, "java/lang/IndexOutOfBoundsException", q_131, by decide +kernel⟩) q_232 q_239 (by decide) dc_L_sort_14 dc_L_sort_16 dc_L_sort_17 ⟨rfl, hpost⟩
set_option maxHeartbeats 4000000 in
set_option maxRecDepth 100000 in
theorem hp_sorted_0 (l : Launch) (g : YG) (S : YS) (a : Int32) (b : Int32) (lev : Nat) (hlev : lev ≤ 30) (P : Bool → YS → Prop) (H : yC l mn_B_sorted mb_B_sorted 4 (some .boolean) lev g [.ref (g.ad (0)), .int (a), .int (b)] S (fun v S' => ∃ b0 : Bool, v = some (.int (yb b0)) ∧ P b0 S')) : yHC l mn_L_sorted mb_L_sorted 5 (some .int) [(0, 17, 20, 13), (0, 17, 24, 21)] 32 g [.ref (g.ad (0)), .int (a), .int (b), .ref (g.ad (31))] S (fun v S' => v = some (.int (nI 0)) ∧ ∃ (b0 : Bool) (S1 : YS), P b0 S1 ∧ S' = sL (S1) 31 (vp_updL (gL (S1) 31) 0 ((if b0 then 1 else 0)))) := by
  refine yHC_of (by decide) (Nat.le_of_ble_eq_true rfl) ?_
  intro o hl hg hz1 hz2 hB0 hE
  subst hl
  subst hg
  have hB : yB o mb_L_sorted "OrderBenchLaw" := hB0
  have hm := hE.1
  show yW o (S) 0 [(0, .ref (o.G.ad (0))), (1, .int (a)), (2, .int (b)), (3, .ref (o.G.ad (31)))] []
  refine y_aload_n (pc' := 1) hB dc_L_sorted_0 rfl rfl 3 rfl ?_
  refine y_iconst (v := nI 0) (pc' := 2) hB dc_L_sorted_1 rfl rfl ?_
  refine y_aload_n (pc' := 3) hB dc_L_sorted_2 rfl rfl 0 rfl ?_
  refine y_iload_n (pc' := 4) hB dc_L_sorted_3 rfl rfl 1 rfl ?_
  refine y_iload_n (pc' := 5) hB dc_L_sorted_4 rfl rfl 2 rfl ?_
  refine y_gV (c := 0) (ci := 0) (As := [.int (a), .int (b)]) (rest := [.int (nI (0)), .ref (o.G.ad (31))]) (pc' := 8) hB (hE.fit (by omega) (by decide)) (hE.rm (by omega) (by omega)) (H) mm_B_sorted q_536 q_537 q_538 (by decide) rfl rfl dc_L_sorted_5 rfl rfl rfl (Nat.le_of_ble_eq_true rfl) (fun v S' hpost => ?_)
  obtain ⟨b0, rfl, hP⟩ := hpost
  show yW o (S') 8 [(0, .ref (o.G.ad (0))), (1, .int (a)), (2, .int (b)), (3, .ref (o.G.ad (31)))] [.int (yb b0), .int (nI (0)), .ref (o.G.ad (31))]
  refine y_if_eq (x := yb b0) (pc' := 11) (tg := 15) hB dc_L_sorted_8 rfl rfl (fun b1 => ?_) (fun b1 => ?_)
  · have e : b0 = false := yb_0.mp b1
    subst e
    refine y_lconst (v := 0) (pc' := 16) hB dc_L_sorted_15 rfl rfl ?_
    refine y_last (c := 31) (n := 1) (j := 0) (pc' := 17) hB dc_L_sorted_16 rfl (by decide) rfl (by omega) (by decide) ?_
    refine y_goto (tg := 28) hB dc_L_sorted_17 rfl ?_
    refine y_iconst (v := nI 0) (pc' := 29) hB dc_L_sorted_28 rfl rfl ?_
    exact y_hret hB hE (by omega) (by omega) dc_L_sorted_29 ⟨rfl, _, S', hP, rfl⟩
  · have e : b0 = true := yb_n.mp b1
    subst e
    refine y_lconst (v := 1) (pc' := 12) hB dc_L_sorted_11 rfl rfl ?_
    refine y_goto (tg := 16) hB dc_L_sorted_12 rfl ?_
    refine y_last (c := 31) (n := 1) (j := 0) (pc' := 17) hB dc_L_sorted_16 rfl (by decide) rfl (by omega) (by decide) ?_
    refine y_goto (tg := 28) hB dc_L_sorted_17 rfl ?_
    refine y_iconst (v := nI 0) (pc' := 29) hB dc_L_sorted_28 rfl rfl ?_
    exact y_hret hB hE (by omega) (by omega) dc_L_sorted_29 ⟨rfl, _, S', hP, rfl⟩
set_option maxHeartbeats 4000000 in
set_option maxRecDepth 100000 in
theorem hp_sorted_1 (l : Launch) (g : YG) (S : YS) (a : Int32) (b : Int32) (lev : Nat) (hlev : lev ≤ 30) (P : YS → Prop) (H : yX l mn_B_sorted mb_B_sorted 4 (some .boolean) lev g [.ref (g.ad (0)), .int (a), .int (b)] S yXI P) : yHC l mn_L_sorted mb_L_sorted 5 (some .int) [(0, 17, 20, 13), (0, 17, 24, 21)] 32 g [.ref (g.ad (0)), .int (a), .int (b), .ref (g.ad (31))] S (fun v S' => v = some (.int (nI 1)) ∧ P S') := by
  refine yHC_of (by decide) (Nat.le_of_ble_eq_true rfl) ?_
  intro o hl hg hz1 hz2 hB0 hE
  subst hl
  subst hg
  have hB : yB o mb_L_sorted "OrderBenchLaw" := hB0
  have hm := hE.1
  show yW o (S) 0 [(0, .ref (o.G.ad (0))), (1, .int (a)), (2, .int (b)), (3, .ref (o.G.ad (31)))] []
  refine y_aload_n (pc' := 1) hB dc_L_sorted_0 rfl rfl 3 rfl ?_
  refine y_iconst (v := nI 0) (pc' := 2) hB dc_L_sorted_1 rfl rfl ?_
  refine y_aload_n (pc' := 3) hB dc_L_sorted_2 rfl rfl 0 rfl ?_
  refine y_iload_n (pc' := 4) hB dc_L_sorted_3 rfl rfl 1 rfl ?_
  refine y_iload_n (pc' := 5) hB dc_L_sorted_4 rfl rfl 2 rfl ?_
  refine y_xV (c := 0) (ci := 0) (As := [.int (a), .int (b)]) (rest := [.int (nI (0)), .ref (o.G.ad (31))]) hB (hE.fit (by omega) (by decide)) (hE.rm (by omega) (by omega)) (H) mm_B_sorted q_536 q_537 q_538 (by decide) rfl rfl dc_L_sorted_5 rfl rfl (Nat.le_of_ble_eq_true rfl) (fun S' hpost => ?_)
  exact y_code (pre := []) (suf := [(0, 17, 24, 21)]) (s0 := 0) (e0 := 17) (hp := 20) (ct := 13) (i := 4) (c := 1) hB hE hz1 hz2 rfl (by decide) (by decide) (by decide) (fun z hz => nomatch hz) q_131 q_143 (by decide) dc_L_sorted_20 dc_L_sorted_22 dc_L_sorted_23 ⟨rfl, hpost⟩
set_option maxHeartbeats 4000000 in
set_option maxRecDepth 100000 in
theorem hp_sorted_2 (l : Launch) (g : YG) (S : YS) (a : Int32) (b : Int32) (lev : Nat) (hlev : lev ≤ 30) (P : YS → Prop) (H : yX l mn_B_sorted mb_B_sorted 4 (some .boolean) lev g [.ref (g.ad (0)), .int (a), .int (b)] S yXA P) : yHC l mn_L_sorted mb_L_sorted 5 (some .int) [(0, 17, 20, 13), (0, 17, 24, 21)] 32 g [.ref (g.ad (0)), .int (a), .int (b), .ref (g.ad (31))] S (fun v S' => v = some (.int (nI 2)) ∧ P S') := by
  refine yHC_of (by decide) (Nat.le_of_ble_eq_true rfl) ?_
  intro o hl hg hz1 hz2 hB0 hE
  subst hl
  subst hg
  have hB : yB o mb_L_sorted "OrderBenchLaw" := hB0
  have hm := hE.1
  show yW o (S) 0 [(0, .ref (o.G.ad (0))), (1, .int (a)), (2, .int (b)), (3, .ref (o.G.ad (31)))] []
  refine y_aload_n (pc' := 1) hB dc_L_sorted_0 rfl rfl 3 rfl ?_
  refine y_iconst (v := nI 0) (pc' := 2) hB dc_L_sorted_1 rfl rfl ?_
  refine y_aload_n (pc' := 3) hB dc_L_sorted_2 rfl rfl 0 rfl ?_
  refine y_iload_n (pc' := 4) hB dc_L_sorted_3 rfl rfl 1 rfl ?_
  refine y_iload_n (pc' := 5) hB dc_L_sorted_4 rfl rfl 2 rfl ?_
  refine y_xV (c := 0) (ci := 0) (As := [.int (a), .int (b)]) (rest := [.int (nI (0)), .ref (o.G.ad (31))]) hB (hE.fit (by omega) (by decide)) (hE.rm (by omega) (by omega)) (H) mm_B_sorted q_536 q_537 q_538 (by decide) rfl rfl dc_L_sorted_5 rfl rfl (Nat.le_of_ble_eq_true rfl) (fun S' hpost => ?_)
  exact y_code (pre := [(0, 17, 20, 13)]) (suf := []) (s0 := 0) (e0 := 17) (hp := 24) (ct := 21) (i := 4) (c := 2) hB hE hz1 hz2 rfl (by decide) (by decide) (by decide) (fun z hz => by rw [List.mem_singleton.mp hz]; exact ⟨by decide, "java/lang/IndexOutOfBoundsException", q_131, by decide +kernel⟩) q_232 q_239 (by decide) dc_L_sorted_24 dc_L_sorted_26 dc_L_sorted_27 ⟨rfl, hpost⟩
set_option maxHeartbeats 4000000 in
set_option maxRecDepth 100000 in
theorem hp_runs_0 (l : Launch) (g : YG) (S : YS) (a : Int32) (b : Int32) (lev : Nat) (hlev : lev ≤ 30) (P : Int32 → YS → Prop) (H : yC l mn_B_runs mb_B_runs 6 (some .int) lev g [.ref (g.ad (0)), .int (a), .int (b)] S (fun v S' => ∃ b0 : Int32, v = some (.int b0) ∧ P b0 S')) : yHC l mn_L_runs mb_L_runs 5 (some .int) [(0, 10, 13, 13), (0, 10, 17, 21)] 32 g [.ref (g.ad (0)), .int (a), .int (b), .ref (g.ad (31))] S (fun v S' => v = some (.int (nI 0)) ∧ ∃ (b0 : Int32) (S1 : YS), P b0 S1 ∧ S' = sL (S1) 31 (vp_updL (gL (S1) 31) 0 (Int32.toInt64 b0))) := by
  refine yHC_of (by decide) (Nat.le_of_ble_eq_true rfl) ?_
  intro o hl hg hz1 hz2 hB0 hE
  subst hl
  subst hg
  have hB : yB o mb_L_runs "OrderBenchLaw" := hB0
  have hm := hE.1
  show yW o (S) 0 [(0, .ref (o.G.ad (0))), (1, .int (a)), (2, .int (b)), (3, .ref (o.G.ad (31)))] []
  refine y_aload_n (pc' := 1) hB dc_L_runs_0 rfl rfl 3 rfl ?_
  refine y_iconst (v := nI 0) (pc' := 2) hB dc_L_runs_1 rfl rfl ?_
  refine y_aload_n (pc' := 3) hB dc_L_runs_2 rfl rfl 0 rfl ?_
  refine y_iload_n (pc' := 4) hB dc_L_runs_3 rfl rfl 1 rfl ?_
  refine y_iload_n (pc' := 5) hB dc_L_runs_4 rfl rfl 2 rfl ?_
  refine y_gV (c := 0) (ci := 0) (As := [.int (a), .int (b)]) (rest := [.int (nI (0)), .ref (o.G.ad (31))]) (pc' := 8) hB (hE.fit (by omega) (by decide)) (hE.rm (by omega) (by omega)) (H) mm_B_runs q_552 q_553 q_554 (by decide) rfl rfl dc_L_runs_5 rfl rfl rfl (Nat.le_of_ble_eq_true rfl) (fun v S' hpost => ?_)
  obtain ⟨b0, rfl, hP⟩ := hpost
  show yW o (S') 8 [(0, .ref (o.G.ad (0))), (1, .int (a)), (2, .int (b)), (3, .ref (o.G.ad (31)))] [.int (b0), .int (nI (0)), .ref (o.G.ad (31))]
  refine y_i2l (v := Int32.toInt64 (b0)) (pc' := 9) hB dc_L_runs_8 rfl rfl ?_
  refine y_last (c := 31) (n := 1) (j := 0) (pc' := 10) hB dc_L_runs_9 rfl (by decide) rfl (by omega) (by decide) ?_
  refine y_goto (tg := 21) hB dc_L_runs_10 rfl ?_
  refine y_iconst (v := nI 0) (pc' := 22) hB dc_L_runs_21 rfl rfl ?_
  exact y_hret hB hE (by omega) (by omega) dc_L_runs_22 ⟨rfl, _, S', hP, rfl⟩
set_option maxHeartbeats 4000000 in
set_option maxRecDepth 100000 in
theorem hp_runs_1 (l : Launch) (g : YG) (S : YS) (a : Int32) (b : Int32) (lev : Nat) (hlev : lev ≤ 30) (P : YS → Prop) (H : yX l mn_B_runs mb_B_runs 6 (some .int) lev g [.ref (g.ad (0)), .int (a), .int (b)] S yXI P) : yHC l mn_L_runs mb_L_runs 5 (some .int) [(0, 10, 13, 13), (0, 10, 17, 21)] 32 g [.ref (g.ad (0)), .int (a), .int (b), .ref (g.ad (31))] S (fun v S' => v = some (.int (nI 1)) ∧ P S') := by
  refine yHC_of (by decide) (Nat.le_of_ble_eq_true rfl) ?_
  intro o hl hg hz1 hz2 hB0 hE
  subst hl
  subst hg
  have hB : yB o mb_L_runs "OrderBenchLaw" := hB0
  have hm := hE.1
  show yW o (S) 0 [(0, .ref (o.G.ad (0))), (1, .int (a)), (2, .int (b)), (3, .ref (o.G.ad (31)))] []
  refine y_aload_n (pc' := 1) hB dc_L_runs_0 rfl rfl 3 rfl ?_
  refine y_iconst (v := nI 0) (pc' := 2) hB dc_L_runs_1 rfl rfl ?_
  refine y_aload_n (pc' := 3) hB dc_L_runs_2 rfl rfl 0 rfl ?_
  refine y_iload_n (pc' := 4) hB dc_L_runs_3 rfl rfl 1 rfl ?_
  refine y_iload_n (pc' := 5) hB dc_L_runs_4 rfl rfl 2 rfl ?_
  refine y_xV (c := 0) (ci := 0) (As := [.int (a), .int (b)]) (rest := [.int (nI (0)), .ref (o.G.ad (31))]) hB (hE.fit (by omega) (by decide)) (hE.rm (by omega) (by omega)) (H) mm_B_runs q_552 q_553 q_554 (by decide) rfl rfl dc_L_runs_5 rfl rfl (Nat.le_of_ble_eq_true rfl) (fun S' hpost => ?_)
  exact y_code (pre := []) (suf := [(0, 10, 17, 21)]) (s0 := 0) (e0 := 10) (hp := 13) (ct := 13) (i := 4) (c := 1) hB hE hz1 hz2 rfl (by decide) (by decide) (by decide) (fun z hz => nomatch hz) q_131 q_143 (by decide) dc_L_runs_13 dc_L_runs_15 dc_L_runs_16 ⟨rfl, hpost⟩
set_option maxHeartbeats 4000000 in
set_option maxRecDepth 100000 in
theorem hp_runs_2 (l : Launch) (g : YG) (S : YS) (a : Int32) (b : Int32) (lev : Nat) (hlev : lev ≤ 30) (P : YS → Prop) (H : yX l mn_B_runs mb_B_runs 6 (some .int) lev g [.ref (g.ad (0)), .int (a), .int (b)] S yXA P) : yHC l mn_L_runs mb_L_runs 5 (some .int) [(0, 10, 13, 13), (0, 10, 17, 21)] 32 g [.ref (g.ad (0)), .int (a), .int (b), .ref (g.ad (31))] S (fun v S' => v = some (.int (nI 2)) ∧ P S') := by
  refine yHC_of (by decide) (Nat.le_of_ble_eq_true rfl) ?_
  intro o hl hg hz1 hz2 hB0 hE
  subst hl
  subst hg
  have hB : yB o mb_L_runs "OrderBenchLaw" := hB0
  have hm := hE.1
  show yW o (S) 0 [(0, .ref (o.G.ad (0))), (1, .int (a)), (2, .int (b)), (3, .ref (o.G.ad (31)))] []
  refine y_aload_n (pc' := 1) hB dc_L_runs_0 rfl rfl 3 rfl ?_
  refine y_iconst (v := nI 0) (pc' := 2) hB dc_L_runs_1 rfl rfl ?_
  refine y_aload_n (pc' := 3) hB dc_L_runs_2 rfl rfl 0 rfl ?_
  refine y_iload_n (pc' := 4) hB dc_L_runs_3 rfl rfl 1 rfl ?_
  refine y_iload_n (pc' := 5) hB dc_L_runs_4 rfl rfl 2 rfl ?_
  refine y_xV (c := 0) (ci := 0) (As := [.int (a), .int (b)]) (rest := [.int (nI (0)), .ref (o.G.ad (31))]) hB (hE.fit (by omega) (by decide)) (hE.rm (by omega) (by omega)) (H) mm_B_runs q_552 q_553 q_554 (by decide) rfl rfl dc_L_runs_5 rfl rfl (Nat.le_of_ble_eq_true rfl) (fun S' hpost => ?_)
  exact y_code (pre := [(0, 10, 13, 13)]) (suf := []) (s0 := 0) (e0 := 10) (hp := 17) (ct := 21) (i := 4) (c := 2) hB hE hz1 hz2 rfl (by decide) (by decide) (by decide) (fun z hz => by rw [List.mem_singleton.mp hz]; exact ⟨by decide, "java/lang/IndexOutOfBoundsException", q_131, by decide +kernel⟩) q_232 q_239 (by decide) dc_L_runs_17 dc_L_runs_19 dc_L_runs_20 ⟨rfl, hpost⟩
set_option maxHeartbeats 4000000 in
set_option maxRecDepth 100000 in
theorem hp_inversions_0 (l : Launch) (g : YG) (S : YS) (a : Int32) (b : Int32) (lev : Nat) (hlev : lev ≤ 30) (P : Int32 → YS → Prop) (H : yC l mn_B_inversions mb_B_inversions 4 (some .int) lev g [.ref (g.ad (0)), .int (a), .int (b)] S (fun v S' => ∃ b0 : Int32, v = some (.int b0) ∧ P b0 S')) : yHC l mn_L_inversions mb_L_inversions 5 (some .int) [(0, 10, 13, 13), (0, 10, 17, 21)] 32 g [.ref (g.ad (0)), .int (a), .int (b), .ref (g.ad (31))] S (fun v S' => v = some (.int (nI 0)) ∧ ∃ (b0 : Int32) (S1 : YS), P b0 S1 ∧ S' = sL (S1) 31 (vp_updL (gL (S1) 31) 0 (Int32.toInt64 b0))) := by
  refine yHC_of (by decide) (Nat.le_of_ble_eq_true rfl) ?_
  intro o hl hg hz1 hz2 hB0 hE
  subst hl
  subst hg
  have hB : yB o mb_L_inversions "OrderBenchLaw" := hB0
  have hm := hE.1
  show yW o (S) 0 [(0, .ref (o.G.ad (0))), (1, .int (a)), (2, .int (b)), (3, .ref (o.G.ad (31)))] []
  refine y_aload_n (pc' := 1) hB dc_L_inversions_0 rfl rfl 3 rfl ?_
  refine y_iconst (v := nI 0) (pc' := 2) hB dc_L_inversions_1 rfl rfl ?_
  refine y_aload_n (pc' := 3) hB dc_L_inversions_2 rfl rfl 0 rfl ?_
  refine y_iload_n (pc' := 4) hB dc_L_inversions_3 rfl rfl 1 rfl ?_
  refine y_iload_n (pc' := 5) hB dc_L_inversions_4 rfl rfl 2 rfl ?_
  refine y_gV (c := 0) (ci := 0) (As := [.int (a), .int (b)]) (rest := [.int (nI (0)), .ref (o.G.ad (31))]) (pc' := 8) hB (hE.fit (by omega) (by decide)) (hE.rm (by omega) (by omega)) (H) mm_B_inversions q_561 q_562 q_563 (by decide) rfl rfl dc_L_inversions_5 rfl rfl rfl (Nat.le_of_ble_eq_true rfl) (fun v S' hpost => ?_)
  obtain ⟨b0, rfl, hP⟩ := hpost
  show yW o (S') 8 [(0, .ref (o.G.ad (0))), (1, .int (a)), (2, .int (b)), (3, .ref (o.G.ad (31)))] [.int (b0), .int (nI (0)), .ref (o.G.ad (31))]
  refine y_i2l (v := Int32.toInt64 (b0)) (pc' := 9) hB dc_L_inversions_8 rfl rfl ?_
  refine y_last (c := 31) (n := 1) (j := 0) (pc' := 10) hB dc_L_inversions_9 rfl (by decide) rfl (by omega) (by decide) ?_
  refine y_goto (tg := 21) hB dc_L_inversions_10 rfl ?_
  refine y_iconst (v := nI 0) (pc' := 22) hB dc_L_inversions_21 rfl rfl ?_
  exact y_hret hB hE (by omega) (by omega) dc_L_inversions_22 ⟨rfl, _, S', hP, rfl⟩
set_option maxHeartbeats 4000000 in
set_option maxRecDepth 100000 in
theorem hp_inversions_1 (l : Launch) (g : YG) (S : YS) (a : Int32) (b : Int32) (lev : Nat) (hlev : lev ≤ 30) (P : YS → Prop) (H : yX l mn_B_inversions mb_B_inversions 4 (some .int) lev g [.ref (g.ad (0)), .int (a), .int (b)] S yXI P) : yHC l mn_L_inversions mb_L_inversions 5 (some .int) [(0, 10, 13, 13), (0, 10, 17, 21)] 32 g [.ref (g.ad (0)), .int (a), .int (b), .ref (g.ad (31))] S (fun v S' => v = some (.int (nI 1)) ∧ P S') := by
  refine yHC_of (by decide) (Nat.le_of_ble_eq_true rfl) ?_
  intro o hl hg hz1 hz2 hB0 hE
  subst hl
  subst hg
  have hB : yB o mb_L_inversions "OrderBenchLaw" := hB0
  have hm := hE.1
  show yW o (S) 0 [(0, .ref (o.G.ad (0))), (1, .int (a)), (2, .int (b)), (3, .ref (o.G.ad (31)))] []
  refine y_aload_n (pc' := 1) hB dc_L_inversions_0 rfl rfl 3 rfl ?_
  refine y_iconst (v := nI 0) (pc' := 2) hB dc_L_inversions_1 rfl rfl ?_
  refine y_aload_n (pc' := 3) hB dc_L_inversions_2 rfl rfl 0 rfl ?_
  refine y_iload_n (pc' := 4) hB dc_L_inversions_3 rfl rfl 1 rfl ?_
  refine y_iload_n (pc' := 5) hB dc_L_inversions_4 rfl rfl 2 rfl ?_
  refine y_xV (c := 0) (ci := 0) (As := [.int (a), .int (b)]) (rest := [.int (nI (0)), .ref (o.G.ad (31))]) hB (hE.fit (by omega) (by decide)) (hE.rm (by omega) (by omega)) (H) mm_B_inversions q_561 q_562 q_563 (by decide) rfl rfl dc_L_inversions_5 rfl rfl (Nat.le_of_ble_eq_true rfl) (fun S' hpost => ?_)
  exact y_code (pre := []) (suf := [(0, 10, 17, 21)]) (s0 := 0) (e0 := 10) (hp := 13) (ct := 13) (i := 4) (c := 1) hB hE hz1 hz2 rfl (by decide) (by decide) (by decide) (fun z hz => nomatch hz) q_131 q_143 (by decide) dc_L_inversions_13 dc_L_inversions_15 dc_L_inversions_16 ⟨rfl, hpost⟩
set_option maxHeartbeats 4000000 in
set_option maxRecDepth 100000 in
theorem hp_inversions_2 (l : Launch) (g : YG) (S : YS) (a : Int32) (b : Int32) (lev : Nat) (hlev : lev ≤ 30) (P : YS → Prop) (H : yX l mn_B_inversions mb_B_inversions 4 (some .int) lev g [.ref (g.ad (0)), .int (a), .int (b)] S yXA P) : yHC l mn_L_inversions mb_L_inversions 5 (some .int) [(0, 10, 13, 13), (0, 10, 17, 21)] 32 g [.ref (g.ad (0)), .int (a), .int (b), .ref (g.ad (31))] S (fun v S' => v = some (.int (nI 2)) ∧ P S') := by
  refine yHC_of (by decide) (Nat.le_of_ble_eq_true rfl) ?_
  intro o hl hg hz1 hz2 hB0 hE
  subst hl
  subst hg
  have hB : yB o mb_L_inversions "OrderBenchLaw" := hB0
  have hm := hE.1
  show yW o (S) 0 [(0, .ref (o.G.ad (0))), (1, .int (a)), (2, .int (b)), (3, .ref (o.G.ad (31)))] []
  refine y_aload_n (pc' := 1) hB dc_L_inversions_0 rfl rfl 3 rfl ?_
  refine y_iconst (v := nI 0) (pc' := 2) hB dc_L_inversions_1 rfl rfl ?_
  refine y_aload_n (pc' := 3) hB dc_L_inversions_2 rfl rfl 0 rfl ?_
  refine y_iload_n (pc' := 4) hB dc_L_inversions_3 rfl rfl 1 rfl ?_
  refine y_iload_n (pc' := 5) hB dc_L_inversions_4 rfl rfl 2 rfl ?_
  refine y_xV (c := 0) (ci := 0) (As := [.int (a), .int (b)]) (rest := [.int (nI (0)), .ref (o.G.ad (31))]) hB (hE.fit (by omega) (by decide)) (hE.rm (by omega) (by omega)) (H) mm_B_inversions q_561 q_562 q_563 (by decide) rfl rfl dc_L_inversions_5 rfl rfl (Nat.le_of_ble_eq_true rfl) (fun S' hpost => ?_)
  exact y_code (pre := [(0, 10, 13, 13)]) (suf := []) (s0 := 0) (e0 := 10) (hp := 17) (ct := 21) (i := 4) (c := 2) hB hE hz1 hz2 rfl (by decide) (by decide) (by decide) (fun z hz => by rw [List.mem_singleton.mp hz]; exact ⟨by decide, "java/lang/IndexOutOfBoundsException", q_131, by decide +kernel⟩) q_232 q_239 (by decide) dc_L_inversions_17 dc_L_inversions_19 dc_L_inversions_20 ⟨rfl, hpost⟩
set_option maxHeartbeats 4000000 in
set_option maxRecDepth 100000 in
theorem hp_ranked_0 (l : Launch) (g : YG) (S : YS) (a : Int32) (b : Int32) (c : Int32) (lev : Nat) (hlev : lev ≤ 30) (P : Int32 → YS → Prop) (H : yC l mn_B_ranked mb_B_ranked 5 (some .int) lev g [.ref (g.ad (0)), .int (a), .int (b), .int (c)] S (fun v S' => ∃ b0 : Int32, v = some (.int b0) ∧ P b0 S')) : yHC l mn_L_ranked mb_L_ranked 6 (some .int) [(0, 12, 15, 13), (0, 12, 19, 21)] 32 g [.ref (g.ad (0)), .int (a), .int (b), .int (c), .ref (g.ad (31))] S (fun v S' => v = some (.int (nI 0)) ∧ ∃ (b0 : Int32) (S1 : YS), P b0 S1 ∧ S' = sL (S1) 31 (vp_updL (gL (S1) 31) 0 (Int32.toInt64 b0))) := by
  refine yHC_of (by decide) (Nat.le_of_ble_eq_true rfl) ?_
  intro o hl hg hz1 hz2 hB0 hE
  subst hl
  subst hg
  have hB : yB o mb_L_ranked "OrderBenchLaw" := hB0
  have hm := hE.1
  show yW o (S) 0 [(0, .ref (o.G.ad (0))), (1, .int (a)), (2, .int (b)), (3, .int (c)), (4, .ref (o.G.ad (31)))] []
  refine y_aload (pc' := 2) hB dc_L_ranked_0 rfl 4 rfl ?_
  refine y_iconst (v := nI 0) (pc' := 3) hB dc_L_ranked_2 rfl rfl ?_
  refine y_aload_n (pc' := 4) hB dc_L_ranked_3 rfl rfl 0 rfl ?_
  refine y_iload_n (pc' := 5) hB dc_L_ranked_4 rfl rfl 1 rfl ?_
  refine y_iload_n (pc' := 6) hB dc_L_ranked_5 rfl rfl 2 rfl ?_
  refine y_iload_n (pc' := 7) hB dc_L_ranked_6 rfl rfl 3 rfl ?_
  refine y_gV (c := 0) (ci := 0) (As := [.int (a), .int (b), .int (c)]) (rest := [.int (nI (0)), .ref (o.G.ad (31))]) (pc' := 10) hB (hE.fit (by omega) (by decide)) (hE.rm (by omega) (by omega)) (H) mm_B_ranked q_568 q_569 q_570 (by decide) rfl rfl dc_L_ranked_7 rfl rfl rfl (Nat.le_of_ble_eq_true rfl) (fun v S' hpost => ?_)
  obtain ⟨b0, rfl, hP⟩ := hpost
  show yW o (S') 10 [(0, .ref (o.G.ad (0))), (1, .int (a)), (2, .int (b)), (3, .int (c)), (4, .ref (o.G.ad (31)))] [.int (b0), .int (nI (0)), .ref (o.G.ad (31))]
  refine y_i2l (v := Int32.toInt64 (b0)) (pc' := 11) hB dc_L_ranked_10 rfl rfl ?_
  refine y_last (c := 31) (n := 1) (j := 0) (pc' := 12) hB dc_L_ranked_11 rfl (by decide) rfl (by omega) (by decide) ?_
  refine y_goto (tg := 23) hB dc_L_ranked_12 rfl ?_
  refine y_iconst (v := nI 0) (pc' := 24) hB dc_L_ranked_23 rfl rfl ?_
  exact y_hret hB hE (by omega) (by omega) dc_L_ranked_24 ⟨rfl, _, S', hP, rfl⟩
set_option maxHeartbeats 4000000 in
set_option maxRecDepth 100000 in
theorem hp_ranked_1 (l : Launch) (g : YG) (S : YS) (a : Int32) (b : Int32) (c : Int32) (lev : Nat) (hlev : lev ≤ 30) (P : YS → Prop) (H : yX l mn_B_ranked mb_B_ranked 5 (some .int) lev g [.ref (g.ad (0)), .int (a), .int (b), .int (c)] S yXI P) : yHC l mn_L_ranked mb_L_ranked 6 (some .int) [(0, 12, 15, 13), (0, 12, 19, 21)] 32 g [.ref (g.ad (0)), .int (a), .int (b), .int (c), .ref (g.ad (31))] S (fun v S' => v = some (.int (nI 1)) ∧ P S') := by
  refine yHC_of (by decide) (Nat.le_of_ble_eq_true rfl) ?_
  intro o hl hg hz1 hz2 hB0 hE
  subst hl
  subst hg
  have hB : yB o mb_L_ranked "OrderBenchLaw" := hB0
  have hm := hE.1
  show yW o (S) 0 [(0, .ref (o.G.ad (0))), (1, .int (a)), (2, .int (b)), (3, .int (c)), (4, .ref (o.G.ad (31)))] []
  refine y_aload (pc' := 2) hB dc_L_ranked_0 rfl 4 rfl ?_
  refine y_iconst (v := nI 0) (pc' := 3) hB dc_L_ranked_2 rfl rfl ?_
  refine y_aload_n (pc' := 4) hB dc_L_ranked_3 rfl rfl 0 rfl ?_
  refine y_iload_n (pc' := 5) hB dc_L_ranked_4 rfl rfl 1 rfl ?_
  refine y_iload_n (pc' := 6) hB dc_L_ranked_5 rfl rfl 2 rfl ?_
  refine y_iload_n (pc' := 7) hB dc_L_ranked_6 rfl rfl 3 rfl ?_
  refine y_xV (c := 0) (ci := 0) (As := [.int (a), .int (b), .int (c)]) (rest := [.int (nI (0)), .ref (o.G.ad (31))]) hB (hE.fit (by omega) (by decide)) (hE.rm (by omega) (by omega)) (H) mm_B_ranked q_568 q_569 q_570 (by decide) rfl rfl dc_L_ranked_7 rfl rfl (Nat.le_of_ble_eq_true rfl) (fun S' hpost => ?_)
  exact y_code (pre := []) (suf := [(0, 12, 19, 21)]) (s0 := 0) (e0 := 12) (hp := 15) (ct := 13) (i := 5) (c := 1) hB hE hz1 hz2 rfl (by decide) (by decide) (by decide) (fun z hz => nomatch hz) q_131 q_143 (by decide) dc_L_ranked_15 dc_L_ranked_17 dc_L_ranked_18 ⟨rfl, hpost⟩
set_option maxHeartbeats 4000000 in
set_option maxRecDepth 100000 in
theorem hp_ranked_2 (l : Launch) (g : YG) (S : YS) (a : Int32) (b : Int32) (c : Int32) (lev : Nat) (hlev : lev ≤ 30) (P : YS → Prop) (H : yX l mn_B_ranked mb_B_ranked 5 (some .int) lev g [.ref (g.ad (0)), .int (a), .int (b), .int (c)] S yXA P) : yHC l mn_L_ranked mb_L_ranked 6 (some .int) [(0, 12, 15, 13), (0, 12, 19, 21)] 32 g [.ref (g.ad (0)), .int (a), .int (b), .int (c), .ref (g.ad (31))] S (fun v S' => v = some (.int (nI 2)) ∧ P S') := by
  refine yHC_of (by decide) (Nat.le_of_ble_eq_true rfl) ?_
  intro o hl hg hz1 hz2 hB0 hE
  subst hl
  subst hg
  have hB : yB o mb_L_ranked "OrderBenchLaw" := hB0
  have hm := hE.1
  show yW o (S) 0 [(0, .ref (o.G.ad (0))), (1, .int (a)), (2, .int (b)), (3, .int (c)), (4, .ref (o.G.ad (31)))] []
  refine y_aload (pc' := 2) hB dc_L_ranked_0 rfl 4 rfl ?_
  refine y_iconst (v := nI 0) (pc' := 3) hB dc_L_ranked_2 rfl rfl ?_
  refine y_aload_n (pc' := 4) hB dc_L_ranked_3 rfl rfl 0 rfl ?_
  refine y_iload_n (pc' := 5) hB dc_L_ranked_4 rfl rfl 1 rfl ?_
  refine y_iload_n (pc' := 6) hB dc_L_ranked_5 rfl rfl 2 rfl ?_
  refine y_iload_n (pc' := 7) hB dc_L_ranked_6 rfl rfl 3 rfl ?_
  refine y_xV (c := 0) (ci := 0) (As := [.int (a), .int (b), .int (c)]) (rest := [.int (nI (0)), .ref (o.G.ad (31))]) hB (hE.fit (by omega) (by decide)) (hE.rm (by omega) (by omega)) (H) mm_B_ranked q_568 q_569 q_570 (by decide) rfl rfl dc_L_ranked_7 rfl rfl (Nat.le_of_ble_eq_true rfl) (fun S' hpost => ?_)
  exact y_code (pre := [(0, 12, 15, 13)]) (suf := []) (s0 := 0) (e0 := 12) (hp := 19) (ct := 21) (i := 5) (c := 2) hB hE hz1 hz2 rfl (by decide) (by decide) (by decide) (fun z hz => by rw [List.mem_singleton.mp hz]; exact ⟨by decide, "java/lang/IndexOutOfBoundsException", q_131, by decide +kernel⟩) q_232 q_239 (by decide) dc_L_ranked_19 dc_L_ranked_21 dc_L_ranked_22 ⟨rfl, hpost⟩
set_option maxHeartbeats 4000000 in
set_option maxRecDepth 100000 in
theorem hp_climb_0 (l : Launch) (g : YG) (S : YS) (a : Int32) (b : Int32) (lev : Nat) (hlev : lev ≤ 30) (P : Int32 → YS → Prop) (H : yC l mn_B_climb mb_B_climb 7 (some .int) lev g [.ref (g.ad (0)), .int (a), .int (b)] S (fun v S' => ∃ b0 : Int32, v = some (.int b0) ∧ P b0 S')) : yHC l mn_L_climb mb_L_climb 5 (some .int) [(0, 10, 13, 13), (0, 10, 17, 21)] 32 g [.ref (g.ad (0)), .int (a), .int (b), .ref (g.ad (31))] S (fun v S' => v = some (.int (nI 0)) ∧ ∃ (b0 : Int32) (S1 : YS), P b0 S1 ∧ S' = sL (S1) 31 (vp_updL (gL (S1) 31) 0 (Int32.toInt64 b0))) := by
  refine yHC_of (by decide) (Nat.le_of_ble_eq_true rfl) ?_
  intro o hl hg hz1 hz2 hB0 hE
  subst hl
  subst hg
  have hB : yB o mb_L_climb "OrderBenchLaw" := hB0
  have hm := hE.1
  show yW o (S) 0 [(0, .ref (o.G.ad (0))), (1, .int (a)), (2, .int (b)), (3, .ref (o.G.ad (31)))] []
  refine y_aload_n (pc' := 1) hB dc_L_climb_0 rfl rfl 3 rfl ?_
  refine y_iconst (v := nI 0) (pc' := 2) hB dc_L_climb_1 rfl rfl ?_
  refine y_aload_n (pc' := 3) hB dc_L_climb_2 rfl rfl 0 rfl ?_
  refine y_iload_n (pc' := 4) hB dc_L_climb_3 rfl rfl 1 rfl ?_
  refine y_iload_n (pc' := 5) hB dc_L_climb_4 rfl rfl 2 rfl ?_
  refine y_gV (c := 0) (ci := 0) (As := [.int (a), .int (b)]) (rest := [.int (nI (0)), .ref (o.G.ad (31))]) (pc' := 8) hB (hE.fit (by omega) (by decide)) (hE.rm (by omega) (by omega)) (H) mm_B_climb q_575 q_576 q_577 (by decide) rfl rfl dc_L_climb_5 rfl rfl rfl (Nat.le_of_ble_eq_true rfl) (fun v S' hpost => ?_)
  obtain ⟨b0, rfl, hP⟩ := hpost
  show yW o (S') 8 [(0, .ref (o.G.ad (0))), (1, .int (a)), (2, .int (b)), (3, .ref (o.G.ad (31)))] [.int (b0), .int (nI (0)), .ref (o.G.ad (31))]
  refine y_i2l (v := Int32.toInt64 (b0)) (pc' := 9) hB dc_L_climb_8 rfl rfl ?_
  refine y_last (c := 31) (n := 1) (j := 0) (pc' := 10) hB dc_L_climb_9 rfl (by decide) rfl (by omega) (by decide) ?_
  refine y_goto (tg := 21) hB dc_L_climb_10 rfl ?_
  refine y_iconst (v := nI 0) (pc' := 22) hB dc_L_climb_21 rfl rfl ?_
  exact y_hret hB hE (by omega) (by omega) dc_L_climb_22 ⟨rfl, _, S', hP, rfl⟩
set_option maxHeartbeats 4000000 in
set_option maxRecDepth 100000 in
theorem hp_climb_1 (l : Launch) (g : YG) (S : YS) (a : Int32) (b : Int32) (lev : Nat) (hlev : lev ≤ 30) (P : YS → Prop) (H : yX l mn_B_climb mb_B_climb 7 (some .int) lev g [.ref (g.ad (0)), .int (a), .int (b)] S yXI P) : yHC l mn_L_climb mb_L_climb 5 (some .int) [(0, 10, 13, 13), (0, 10, 17, 21)] 32 g [.ref (g.ad (0)), .int (a), .int (b), .ref (g.ad (31))] S (fun v S' => v = some (.int (nI 1)) ∧ P S') := by
  refine yHC_of (by decide) (Nat.le_of_ble_eq_true rfl) ?_
  intro o hl hg hz1 hz2 hB0 hE
  subst hl
  subst hg
  have hB : yB o mb_L_climb "OrderBenchLaw" := hB0
  have hm := hE.1
  show yW o (S) 0 [(0, .ref (o.G.ad (0))), (1, .int (a)), (2, .int (b)), (3, .ref (o.G.ad (31)))] []
  refine y_aload_n (pc' := 1) hB dc_L_climb_0 rfl rfl 3 rfl ?_
  refine y_iconst (v := nI 0) (pc' := 2) hB dc_L_climb_1 rfl rfl ?_
  refine y_aload_n (pc' := 3) hB dc_L_climb_2 rfl rfl 0 rfl ?_
  refine y_iload_n (pc' := 4) hB dc_L_climb_3 rfl rfl 1 rfl ?_
  refine y_iload_n (pc' := 5) hB dc_L_climb_4 rfl rfl 2 rfl ?_
  refine y_xV (c := 0) (ci := 0) (As := [.int (a), .int (b)]) (rest := [.int (nI (0)), .ref (o.G.ad (31))]) hB (hE.fit (by omega) (by decide)) (hE.rm (by omega) (by omega)) (H) mm_B_climb q_575 q_576 q_577 (by decide) rfl rfl dc_L_climb_5 rfl rfl (Nat.le_of_ble_eq_true rfl) (fun S' hpost => ?_)
  exact y_code (pre := []) (suf := [(0, 10, 17, 21)]) (s0 := 0) (e0 := 10) (hp := 13) (ct := 13) (i := 4) (c := 1) hB hE hz1 hz2 rfl (by decide) (by decide) (by decide) (fun z hz => nomatch hz) q_131 q_143 (by decide) dc_L_climb_13 dc_L_climb_15 dc_L_climb_16 ⟨rfl, hpost⟩
set_option maxHeartbeats 4000000 in
set_option maxRecDepth 100000 in
theorem hp_climb_2 (l : Launch) (g : YG) (S : YS) (a : Int32) (b : Int32) (lev : Nat) (hlev : lev ≤ 30) (P : YS → Prop) (H : yX l mn_B_climb mb_B_climb 7 (some .int) lev g [.ref (g.ad (0)), .int (a), .int (b)] S yXA P) : yHC l mn_L_climb mb_L_climb 5 (some .int) [(0, 10, 13, 13), (0, 10, 17, 21)] 32 g [.ref (g.ad (0)), .int (a), .int (b), .ref (g.ad (31))] S (fun v S' => v = some (.int (nI 2)) ∧ P S') := by
  refine yHC_of (by decide) (Nat.le_of_ble_eq_true rfl) ?_
  intro o hl hg hz1 hz2 hB0 hE
  subst hl
  subst hg
  have hB : yB o mb_L_climb "OrderBenchLaw" := hB0
  have hm := hE.1
  show yW o (S) 0 [(0, .ref (o.G.ad (0))), (1, .int (a)), (2, .int (b)), (3, .ref (o.G.ad (31)))] []
  refine y_aload_n (pc' := 1) hB dc_L_climb_0 rfl rfl 3 rfl ?_
  refine y_iconst (v := nI 0) (pc' := 2) hB dc_L_climb_1 rfl rfl ?_
  refine y_aload_n (pc' := 3) hB dc_L_climb_2 rfl rfl 0 rfl ?_
  refine y_iload_n (pc' := 4) hB dc_L_climb_3 rfl rfl 1 rfl ?_
  refine y_iload_n (pc' := 5) hB dc_L_climb_4 rfl rfl 2 rfl ?_
  refine y_xV (c := 0) (ci := 0) (As := [.int (a), .int (b)]) (rest := [.int (nI (0)), .ref (o.G.ad (31))]) hB (hE.fit (by omega) (by decide)) (hE.rm (by omega) (by omega)) (H) mm_B_climb q_575 q_576 q_577 (by decide) rfl rfl dc_L_climb_5 rfl rfl (Nat.le_of_ble_eq_true rfl) (fun S' hpost => ?_)
  exact y_code (pre := [(0, 10, 13, 13)]) (suf := []) (s0 := 0) (e0 := 10) (hp := 17) (ct := 21) (i := 4) (c := 2) hB hE hz1 hz2 rfl (by decide) (by decide) (by decide) (fun z hz => by rw [List.mem_singleton.mp hz]; exact ⟨by decide, "java/lang/IndexOutOfBoundsException", q_131, by decide +kernel⟩) q_232 q_239 (by decide) dc_L_climb_17 dc_L_climb_19 dc_L_climb_20 ⟨rfl, hpost⟩
set_option maxHeartbeats 4000000 in
set_option maxRecDepth 100000 in
theorem hp_find_0 (l : Launch) (g : YG) (S : YS) (a : Int32) (b : Int32) (c : Int64) (d : Int32) (lev : Nat) (hlev : lev ≤ 30) (P : Int32 → YS → Prop) (H : yC l mn_B_find mb_B_find 7 (some .int) lev g [.ref (g.ad (0)), .int (a), .int (b), .long (c), .int (d)] S (fun v S' => ∃ b0 : Int32, v = some (.int b0) ∧ P b0 S')) : yHC l mn_L_find mb_L_find 8 (some .int) [(0, 14, 17, 13), (0, 14, 21, 21), (0, 14, 25, 15)] 32 g [.ref (g.ad (0)), .int (a), .int (b), .long (c), .int (d), .ref (g.ad (31))] S (fun v S' => v = some (.int (nI 0)) ∧ ∃ (b0 : Int32) (S1 : YS), P b0 S1 ∧ S' = sL (S1) 31 (vp_updL (gL (S1) 31) 0 (Int32.toInt64 b0))) := by
  refine yHC_of (by decide) (Nat.le_of_ble_eq_true rfl) ?_
  intro o hl hg hz1 hz2 hB0 hE
  subst hl
  subst hg
  have hB : yB o mb_L_find "OrderBenchLaw" := hB0
  have hm := hE.1
  show yW o (S) 0 [(0, .ref (o.G.ad (0))), (1, .int (a)), (2, .int (b)), (3, .long (c)), (5, .int (d)), (6, .ref (o.G.ad (31)))] []
  refine y_aload (pc' := 2) hB dc_L_find_0 rfl 5 rfl ?_
  refine y_iconst (v := nI 0) (pc' := 3) hB dc_L_find_2 rfl rfl ?_
  refine y_aload_n (pc' := 4) hB dc_L_find_3 rfl rfl 0 rfl ?_
  refine y_iload_n (pc' := 5) hB dc_L_find_4 rfl rfl 1 rfl ?_
  refine y_iload_n (pc' := 6) hB dc_L_find_5 rfl rfl 2 rfl ?_
  refine y_lload_n (pc' := 7) hB dc_L_find_6 rfl rfl 3 rfl ?_
  refine y_iload (pc' := 9) hB dc_L_find_7 rfl 4 rfl ?_
  refine y_gV (c := 0) (ci := 0) (As := [.int (a), .int (b), .long (c), .int (d)]) (rest := [.int (nI (0)), .ref (o.G.ad (31))]) (pc' := 12) hB (hE.fit (by omega) (by decide)) (hE.rm (by omega) (by omega)) (H) mm_B_find q_585 q_586 q_587 (by decide) rfl rfl dc_L_find_9 rfl rfl rfl (Nat.le_of_ble_eq_true rfl) (fun v S' hpost => ?_)
  obtain ⟨b0, rfl, hP⟩ := hpost
  show yW o (S') 12 [(0, .ref (o.G.ad (0))), (1, .int (a)), (2, .int (b)), (3, .long (c)), (5, .int (d)), (6, .ref (o.G.ad (31)))] [.int (b0), .int (nI (0)), .ref (o.G.ad (31))]
  refine y_i2l (v := Int32.toInt64 (b0)) (pc' := 13) hB dc_L_find_12 rfl rfl ?_
  refine y_last (c := 31) (n := 1) (j := 0) (pc' := 14) hB dc_L_find_13 rfl (by decide) rfl (by omega) (by decide) ?_
  refine y_goto (tg := 29) hB dc_L_find_14 rfl ?_
  refine y_iconst (v := nI 0) (pc' := 30) hB dc_L_find_29 rfl rfl ?_
  exact y_hret hB hE (by omega) (by omega) dc_L_find_30 ⟨rfl, _, S', hP, rfl⟩
set_option maxHeartbeats 4000000 in
set_option maxRecDepth 100000 in
theorem hp_find_1 (l : Launch) (g : YG) (S : YS) (a : Int32) (b : Int32) (c : Int64) (d : Int32) (lev : Nat) (hlev : lev ≤ 30) (P : YS → Prop) (H : yX l mn_B_find mb_B_find 7 (some .int) lev g [.ref (g.ad (0)), .int (a), .int (b), .long (c), .int (d)] S yXI P) : yHC l mn_L_find mb_L_find 8 (some .int) [(0, 14, 17, 13), (0, 14, 21, 21), (0, 14, 25, 15)] 32 g [.ref (g.ad (0)), .int (a), .int (b), .long (c), .int (d), .ref (g.ad (31))] S (fun v S' => v = some (.int (nI 1)) ∧ P S') := by
  refine yHC_of (by decide) (Nat.le_of_ble_eq_true rfl) ?_
  intro o hl hg hz1 hz2 hB0 hE
  subst hl
  subst hg
  have hB : yB o mb_L_find "OrderBenchLaw" := hB0
  have hm := hE.1
  show yW o (S) 0 [(0, .ref (o.G.ad (0))), (1, .int (a)), (2, .int (b)), (3, .long (c)), (5, .int (d)), (6, .ref (o.G.ad (31)))] []
  refine y_aload (pc' := 2) hB dc_L_find_0 rfl 5 rfl ?_
  refine y_iconst (v := nI 0) (pc' := 3) hB dc_L_find_2 rfl rfl ?_
  refine y_aload_n (pc' := 4) hB dc_L_find_3 rfl rfl 0 rfl ?_
  refine y_iload_n (pc' := 5) hB dc_L_find_4 rfl rfl 1 rfl ?_
  refine y_iload_n (pc' := 6) hB dc_L_find_5 rfl rfl 2 rfl ?_
  refine y_lload_n (pc' := 7) hB dc_L_find_6 rfl rfl 3 rfl ?_
  refine y_iload (pc' := 9) hB dc_L_find_7 rfl 4 rfl ?_
  refine y_xV (c := 0) (ci := 0) (As := [.int (a), .int (b), .long (c), .int (d)]) (rest := [.int (nI (0)), .ref (o.G.ad (31))]) hB (hE.fit (by omega) (by decide)) (hE.rm (by omega) (by omega)) (H) mm_B_find q_585 q_586 q_587 (by decide) rfl rfl dc_L_find_9 rfl rfl (Nat.le_of_ble_eq_true rfl) (fun S' hpost => ?_)
  exact y_code (pre := []) (suf := [(0, 14, 21, 21), (0, 14, 25, 15)]) (s0 := 0) (e0 := 14) (hp := 17) (ct := 13) (i := 7) (c := 1) hB hE hz1 hz2 rfl (by decide) (by decide) (by decide) (fun z hz => nomatch hz) q_131 q_143 (by decide) dc_L_find_17 dc_L_find_19 dc_L_find_20 ⟨rfl, hpost⟩
set_option maxHeartbeats 4000000 in
set_option maxRecDepth 100000 in
theorem hp_find_2 (l : Launch) (g : YG) (S : YS) (a : Int32) (b : Int32) (c : Int64) (d : Int32) (lev : Nat) (hlev : lev ≤ 30) (P : YS → Prop) (H : yX l mn_B_find mb_B_find 7 (some .int) lev g [.ref (g.ad (0)), .int (a), .int (b), .long (c), .int (d)] S yXA P) : yHC l mn_L_find mb_L_find 8 (some .int) [(0, 14, 17, 13), (0, 14, 21, 21), (0, 14, 25, 15)] 32 g [.ref (g.ad (0)), .int (a), .int (b), .long (c), .int (d), .ref (g.ad (31))] S (fun v S' => v = some (.int (nI 2)) ∧ P S') := by
  refine yHC_of (by decide) (Nat.le_of_ble_eq_true rfl) ?_
  intro o hl hg hz1 hz2 hB0 hE
  subst hl
  subst hg
  have hB : yB o mb_L_find "OrderBenchLaw" := hB0
  have hm := hE.1
  show yW o (S) 0 [(0, .ref (o.G.ad (0))), (1, .int (a)), (2, .int (b)), (3, .long (c)), (5, .int (d)), (6, .ref (o.G.ad (31)))] []
  refine y_aload (pc' := 2) hB dc_L_find_0 rfl 5 rfl ?_
  refine y_iconst (v := nI 0) (pc' := 3) hB dc_L_find_2 rfl rfl ?_
  refine y_aload_n (pc' := 4) hB dc_L_find_3 rfl rfl 0 rfl ?_
  refine y_iload_n (pc' := 5) hB dc_L_find_4 rfl rfl 1 rfl ?_
  refine y_iload_n (pc' := 6) hB dc_L_find_5 rfl rfl 2 rfl ?_
  refine y_lload_n (pc' := 7) hB dc_L_find_6 rfl rfl 3 rfl ?_
  refine y_iload (pc' := 9) hB dc_L_find_7 rfl 4 rfl ?_
  refine y_xV (c := 0) (ci := 0) (As := [.int (a), .int (b), .long (c), .int (d)]) (rest := [.int (nI (0)), .ref (o.G.ad (31))]) hB (hE.fit (by omega) (by decide)) (hE.rm (by omega) (by omega)) (H) mm_B_find q_585 q_586 q_587 (by decide) rfl rfl dc_L_find_9 rfl rfl (Nat.le_of_ble_eq_true rfl) (fun S' hpost => ?_)
  exact y_code (pre := [(0, 14, 17, 13)]) (suf := [(0, 14, 25, 15)]) (s0 := 0) (e0 := 14) (hp := 21) (ct := 21) (i := 7) (c := 2) hB hE hz1 hz2 rfl (by decide) (by decide) (by decide) (fun z hz => by rw [List.mem_singleton.mp hz]; exact ⟨by decide, "java/lang/IndexOutOfBoundsException", q_131, by decide +kernel⟩) q_232 q_239 (by decide) dc_L_find_21 dc_L_find_23 dc_L_find_24 ⟨rfl, hpost⟩
set_option maxHeartbeats 4000000 in
set_option maxRecDepth 100000 in
theorem hp_find_3 (l : Launch) (g : YG) (S : YS) (a : Int32) (b : Int32) (c : Int64) (d : Int32) (lev : Nat) (hlev : lev ≤ 30) (P : YS → Prop) (H : yX l mn_B_find mb_B_find 7 (some .int) lev g [.ref (g.ad (0)), .int (a), .int (b), .long (c), .int (d)] S yXS P) : yHC l mn_L_find mb_L_find 8 (some .int) [(0, 14, 17, 13), (0, 14, 21, 21), (0, 14, 25, 15)] 32 g [.ref (g.ad (0)), .int (a), .int (b), .long (c), .int (d), .ref (g.ad (31))] S (fun v S' => v = some (.int (nI 3)) ∧ P S') := by
  refine yHC_of (by decide) (Nat.le_of_ble_eq_true rfl) ?_
  intro o hl hg hz1 hz2 hB0 hE
  subst hl
  subst hg
  have hB : yB o mb_L_find "OrderBenchLaw" := hB0
  have hm := hE.1
  show yW o (S) 0 [(0, .ref (o.G.ad (0))), (1, .int (a)), (2, .int (b)), (3, .long (c)), (5, .int (d)), (6, .ref (o.G.ad (31)))] []
  refine y_aload (pc' := 2) hB dc_L_find_0 rfl 5 rfl ?_
  refine y_iconst (v := nI 0) (pc' := 3) hB dc_L_find_2 rfl rfl ?_
  refine y_aload_n (pc' := 4) hB dc_L_find_3 rfl rfl 0 rfl ?_
  refine y_iload_n (pc' := 5) hB dc_L_find_4 rfl rfl 1 rfl ?_
  refine y_iload_n (pc' := 6) hB dc_L_find_5 rfl rfl 2 rfl ?_
  refine y_lload_n (pc' := 7) hB dc_L_find_6 rfl rfl 3 rfl ?_
  refine y_iload (pc' := 9) hB dc_L_find_7 rfl 4 rfl ?_
  refine y_xV (c := 0) (ci := 0) (As := [.int (a), .int (b), .long (c), .int (d)]) (rest := [.int (nI (0)), .ref (o.G.ad (31))]) hB (hE.fit (by omega) (by decide)) (hE.rm (by omega) (by omega)) (H) mm_B_find q_585 q_586 q_587 (by decide) rfl rfl dc_L_find_9 rfl rfl (Nat.le_of_ble_eq_true rfl) (fun S' hpost => ?_)
  exact y_code (pre := [(0, 14, 17, 13), (0, 14, 21, 21)]) (suf := []) (s0 := 0) (e0 := 14) (hp := 25) (ct := 15) (i := 7) (c := 3) hB hE hz1 hz2 rfl (by decide) (by decide) (by decide) (fun z hz => by rcases List.mem_cons.mp hz with e | hz; rw [e]; exact ⟨by decide, "java/lang/IndexOutOfBoundsException", q_131, by decide +kernel⟩; rw [List.mem_singleton.mp hz]; exact ⟨by decide, "java/lang/IllegalArgumentException", q_232, by decide +kernel⟩) q_132 q_211 (by decide) dc_L_find_25 dc_L_find_27 dc_L_find_28 ⟨rfl, hpost⟩
set_option maxHeartbeats 4000000 in
set_option maxRecDepth 100000 in
theorem hp_merge_0 (l : Launch) (g : YG) (S : YS) (a : Int32) (b : Int32) (c : Int32) (d : Int32) (lev : Nat) (hlev : lev ≤ 30) (P : Int32 → YS → Prop) (H : yC l mn_B_merge mb_B_merge 10 (some .int) lev g [.ref (g.ad (0)), .int (a), .int (b), .int (c), .int (d)] S (fun v S' => ∃ b0 : Int32, v = some (.int b0) ∧ P b0 S')) : yHC l mn_L_merge mb_L_merge 7 (some .int) [(0, 14, 17, 13), (0, 14, 21, 21), (0, 14, 25, 15)] 32 g [.ref (g.ad (0)), .int (a), .int (b), .int (c), .int (d), .ref (g.ad (31))] S (fun v S' => v = some (.int (nI 0)) ∧ ∃ (b0 : Int32) (S1 : YS), P b0 S1 ∧ S' = sL (S1) 31 (vp_updL (gL (S1) 31) 0 (Int32.toInt64 b0))) := by
  refine yHC_of (by decide) (Nat.le_of_ble_eq_true rfl) ?_
  intro o hl hg hz1 hz2 hB0 hE
  subst hl
  subst hg
  have hB : yB o mb_L_merge "OrderBenchLaw" := hB0
  have hm := hE.1
  show yW o (S) 0 [(0, .ref (o.G.ad (0))), (1, .int (a)), (2, .int (b)), (3, .int (c)), (4, .int (d)), (5, .ref (o.G.ad (31)))] []
  refine y_aload (pc' := 2) hB dc_L_merge_0 rfl 5 rfl ?_
  refine y_iconst (v := nI 0) (pc' := 3) hB dc_L_merge_2 rfl rfl ?_
  refine y_aload_n (pc' := 4) hB dc_L_merge_3 rfl rfl 0 rfl ?_
  refine y_iload_n (pc' := 5) hB dc_L_merge_4 rfl rfl 1 rfl ?_
  refine y_iload_n (pc' := 6) hB dc_L_merge_5 rfl rfl 2 rfl ?_
  refine y_iload_n (pc' := 7) hB dc_L_merge_6 rfl rfl 3 rfl ?_
  refine y_iload (pc' := 9) hB dc_L_merge_7 rfl 4 rfl ?_
  refine y_gV (c := 0) (ci := 0) (As := [.int (a), .int (b), .int (c), .int (d)]) (rest := [.int (nI (0)), .ref (o.G.ad (31))]) (pc' := 12) hB (hE.fit (by omega) (by decide)) (hE.rm (by omega) (by omega)) (H) mm_B_merge q_597 q_598 q_599 (by decide) rfl rfl dc_L_merge_9 rfl rfl rfl (Nat.le_of_ble_eq_true rfl) (fun v S' hpost => ?_)
  obtain ⟨b0, rfl, hP⟩ := hpost
  show yW o (S') 12 [(0, .ref (o.G.ad (0))), (1, .int (a)), (2, .int (b)), (3, .int (c)), (4, .int (d)), (5, .ref (o.G.ad (31)))] [.int (b0), .int (nI (0)), .ref (o.G.ad (31))]
  refine y_i2l (v := Int32.toInt64 (b0)) (pc' := 13) hB dc_L_merge_12 rfl rfl ?_
  refine y_last (c := 31) (n := 1) (j := 0) (pc' := 14) hB dc_L_merge_13 rfl (by decide) rfl (by omega) (by decide) ?_
  refine y_goto (tg := 29) hB dc_L_merge_14 rfl ?_
  refine y_iconst (v := nI 0) (pc' := 30) hB dc_L_merge_29 rfl rfl ?_
  exact y_hret hB hE (by omega) (by omega) dc_L_merge_30 ⟨rfl, _, S', hP, rfl⟩
set_option maxHeartbeats 4000000 in
set_option maxRecDepth 100000 in
theorem hp_merge_1 (l : Launch) (g : YG) (S : YS) (a : Int32) (b : Int32) (c : Int32) (d : Int32) (lev : Nat) (hlev : lev ≤ 30) (P : YS → Prop) (H : yX l mn_B_merge mb_B_merge 10 (some .int) lev g [.ref (g.ad (0)), .int (a), .int (b), .int (c), .int (d)] S yXI P) : yHC l mn_L_merge mb_L_merge 7 (some .int) [(0, 14, 17, 13), (0, 14, 21, 21), (0, 14, 25, 15)] 32 g [.ref (g.ad (0)), .int (a), .int (b), .int (c), .int (d), .ref (g.ad (31))] S (fun v S' => v = some (.int (nI 1)) ∧ P S') := by
  refine yHC_of (by decide) (Nat.le_of_ble_eq_true rfl) ?_
  intro o hl hg hz1 hz2 hB0 hE
  subst hl
  subst hg
  have hB : yB o mb_L_merge "OrderBenchLaw" := hB0
  have hm := hE.1
  show yW o (S) 0 [(0, .ref (o.G.ad (0))), (1, .int (a)), (2, .int (b)), (3, .int (c)), (4, .int (d)), (5, .ref (o.G.ad (31)))] []
  refine y_aload (pc' := 2) hB dc_L_merge_0 rfl 5 rfl ?_
  refine y_iconst (v := nI 0) (pc' := 3) hB dc_L_merge_2 rfl rfl ?_
  refine y_aload_n (pc' := 4) hB dc_L_merge_3 rfl rfl 0 rfl ?_
  refine y_iload_n (pc' := 5) hB dc_L_merge_4 rfl rfl 1 rfl ?_
  refine y_iload_n (pc' := 6) hB dc_L_merge_5 rfl rfl 2 rfl ?_
  refine y_iload_n (pc' := 7) hB dc_L_merge_6 rfl rfl 3 rfl ?_
  refine y_iload (pc' := 9) hB dc_L_merge_7 rfl 4 rfl ?_
  refine y_xV (c := 0) (ci := 0) (As := [.int (a), .int (b), .int (c), .int (d)]) (rest := [.int (nI (0)), .ref (o.G.ad (31))]) hB (hE.fit (by omega) (by decide)) (hE.rm (by omega) (by omega)) (H) mm_B_merge q_597 q_598 q_599 (by decide) rfl rfl dc_L_merge_9 rfl rfl (Nat.le_of_ble_eq_true rfl) (fun S' hpost => ?_)
  exact y_code (pre := []) (suf := [(0, 14, 21, 21), (0, 14, 25, 15)]) (s0 := 0) (e0 := 14) (hp := 17) (ct := 13) (i := 6) (c := 1) hB hE hz1 hz2 rfl (by decide) (by decide) (by decide) (fun z hz => nomatch hz) q_131 q_143 (by decide) dc_L_merge_17 dc_L_merge_19 dc_L_merge_20 ⟨rfl, hpost⟩
set_option maxHeartbeats 4000000 in
set_option maxRecDepth 100000 in
theorem hp_merge_2 (l : Launch) (g : YG) (S : YS) (a : Int32) (b : Int32) (c : Int32) (d : Int32) (lev : Nat) (hlev : lev ≤ 30) (P : YS → Prop) (H : yX l mn_B_merge mb_B_merge 10 (some .int) lev g [.ref (g.ad (0)), .int (a), .int (b), .int (c), .int (d)] S yXA P) : yHC l mn_L_merge mb_L_merge 7 (some .int) [(0, 14, 17, 13), (0, 14, 21, 21), (0, 14, 25, 15)] 32 g [.ref (g.ad (0)), .int (a), .int (b), .int (c), .int (d), .ref (g.ad (31))] S (fun v S' => v = some (.int (nI 2)) ∧ P S') := by
  refine yHC_of (by decide) (Nat.le_of_ble_eq_true rfl) ?_
  intro o hl hg hz1 hz2 hB0 hE
  subst hl
  subst hg
  have hB : yB o mb_L_merge "OrderBenchLaw" := hB0
  have hm := hE.1
  show yW o (S) 0 [(0, .ref (o.G.ad (0))), (1, .int (a)), (2, .int (b)), (3, .int (c)), (4, .int (d)), (5, .ref (o.G.ad (31)))] []
  refine y_aload (pc' := 2) hB dc_L_merge_0 rfl 5 rfl ?_
  refine y_iconst (v := nI 0) (pc' := 3) hB dc_L_merge_2 rfl rfl ?_
  refine y_aload_n (pc' := 4) hB dc_L_merge_3 rfl rfl 0 rfl ?_
  refine y_iload_n (pc' := 5) hB dc_L_merge_4 rfl rfl 1 rfl ?_
  refine y_iload_n (pc' := 6) hB dc_L_merge_5 rfl rfl 2 rfl ?_
  refine y_iload_n (pc' := 7) hB dc_L_merge_6 rfl rfl 3 rfl ?_
  refine y_iload (pc' := 9) hB dc_L_merge_7 rfl 4 rfl ?_
  refine y_xV (c := 0) (ci := 0) (As := [.int (a), .int (b), .int (c), .int (d)]) (rest := [.int (nI (0)), .ref (o.G.ad (31))]) hB (hE.fit (by omega) (by decide)) (hE.rm (by omega) (by omega)) (H) mm_B_merge q_597 q_598 q_599 (by decide) rfl rfl dc_L_merge_9 rfl rfl (Nat.le_of_ble_eq_true rfl) (fun S' hpost => ?_)
  exact y_code (pre := [(0, 14, 17, 13)]) (suf := [(0, 14, 25, 15)]) (s0 := 0) (e0 := 14) (hp := 21) (ct := 21) (i := 6) (c := 2) hB hE hz1 hz2 rfl (by decide) (by decide) (by decide) (fun z hz => by rw [List.mem_singleton.mp hz]; exact ⟨by decide, "java/lang/IndexOutOfBoundsException", q_131, by decide +kernel⟩) q_232 q_239 (by decide) dc_L_merge_21 dc_L_merge_23 dc_L_merge_24 ⟨rfl, hpost⟩
set_option maxHeartbeats 4000000 in
set_option maxRecDepth 100000 in
theorem hp_merge_3 (l : Launch) (g : YG) (S : YS) (a : Int32) (b : Int32) (c : Int32) (d : Int32) (lev : Nat) (hlev : lev ≤ 30) (P : YS → Prop) (H : yX l mn_B_merge mb_B_merge 10 (some .int) lev g [.ref (g.ad (0)), .int (a), .int (b), .int (c), .int (d)] S yXS P) : yHC l mn_L_merge mb_L_merge 7 (some .int) [(0, 14, 17, 13), (0, 14, 21, 21), (0, 14, 25, 15)] 32 g [.ref (g.ad (0)), .int (a), .int (b), .int (c), .int (d), .ref (g.ad (31))] S (fun v S' => v = some (.int (nI 3)) ∧ P S') := by
  refine yHC_of (by decide) (Nat.le_of_ble_eq_true rfl) ?_
  intro o hl hg hz1 hz2 hB0 hE
  subst hl
  subst hg
  have hB : yB o mb_L_merge "OrderBenchLaw" := hB0
  have hm := hE.1
  show yW o (S) 0 [(0, .ref (o.G.ad (0))), (1, .int (a)), (2, .int (b)), (3, .int (c)), (4, .int (d)), (5, .ref (o.G.ad (31)))] []
  refine y_aload (pc' := 2) hB dc_L_merge_0 rfl 5 rfl ?_
  refine y_iconst (v := nI 0) (pc' := 3) hB dc_L_merge_2 rfl rfl ?_
  refine y_aload_n (pc' := 4) hB dc_L_merge_3 rfl rfl 0 rfl ?_
  refine y_iload_n (pc' := 5) hB dc_L_merge_4 rfl rfl 1 rfl ?_
  refine y_iload_n (pc' := 6) hB dc_L_merge_5 rfl rfl 2 rfl ?_
  refine y_iload_n (pc' := 7) hB dc_L_merge_6 rfl rfl 3 rfl ?_
  refine y_iload (pc' := 9) hB dc_L_merge_7 rfl 4 rfl ?_
  refine y_xV (c := 0) (ci := 0) (As := [.int (a), .int (b), .int (c), .int (d)]) (rest := [.int (nI (0)), .ref (o.G.ad (31))]) hB (hE.fit (by omega) (by decide)) (hE.rm (by omega) (by omega)) (H) mm_B_merge q_597 q_598 q_599 (by decide) rfl rfl dc_L_merge_9 rfl rfl (Nat.le_of_ble_eq_true rfl) (fun S' hpost => ?_)
  exact y_code (pre := [(0, 14, 17, 13), (0, 14, 21, 21)]) (suf := []) (s0 := 0) (e0 := 14) (hp := 25) (ct := 15) (i := 6) (c := 3) hB hE hz1 hz2 rfl (by decide) (by decide) (by decide) (fun z hz => by rcases List.mem_cons.mp hz with e | hz; rw [e]; exact ⟨by decide, "java/lang/IndexOutOfBoundsException", q_131, by decide +kernel⟩; rw [List.mem_singleton.mp hz]; exact ⟨by decide, "java/lang/IllegalArgumentException", q_232, by decide +kernel⟩) q_132 q_211 (by decide) dc_L_merge_25 dc_L_merge_27 dc_L_merge_28 ⟨rfl, hpost⟩
set_option maxHeartbeats 4000000 in
set_option maxRecDepth 100000 in
theorem hp_single_0 (l : Launch) (g : YG) (S : YS) (a : Int32) (b : Int32) (lev : Nat) (hlev : lev ≤ 30) (P : Int32 → YS → Prop) (H : yC l mn_B_single mb_B_single 6 (some .int) lev g [.ref (g.ad (0)), .int (a), .int (b)] S (fun v S' => ∃ b0 : Int32, v = some (.int b0) ∧ P b0 S')) : yHC l mn_L_single mb_L_single 5 (some .int) [(0, 10, 13, 13), (0, 10, 17, 21), (0, 10, 21, 15)] 32 g [.ref (g.ad (0)), .int (a), .int (b), .ref (g.ad (31))] S (fun v S' => v = some (.int (nI 0)) ∧ ∃ (b0 : Int32) (S1 : YS), P b0 S1 ∧ S' = sL (S1) 31 (vp_updL (gL (S1) 31) 0 (Int32.toInt64 b0))) := by
  refine yHC_of (by decide) (Nat.le_of_ble_eq_true rfl) ?_
  intro o hl hg hz1 hz2 hB0 hE
  subst hl
  subst hg
  have hB : yB o mb_L_single "OrderBenchLaw" := hB0
  have hm := hE.1
  show yW o (S) 0 [(0, .ref (o.G.ad (0))), (1, .int (a)), (2, .int (b)), (3, .ref (o.G.ad (31)))] []
  refine y_aload_n (pc' := 1) hB dc_L_single_0 rfl rfl 3 rfl ?_
  refine y_iconst (v := nI 0) (pc' := 2) hB dc_L_single_1 rfl rfl ?_
  refine y_aload_n (pc' := 3) hB dc_L_single_2 rfl rfl 0 rfl ?_
  refine y_iload_n (pc' := 4) hB dc_L_single_3 rfl rfl 1 rfl ?_
  refine y_iload_n (pc' := 5) hB dc_L_single_4 rfl rfl 2 rfl ?_
  refine y_gV (c := 0) (ci := 0) (As := [.int (a), .int (b)]) (rest := [.int (nI (0)), .ref (o.G.ad (31))]) (pc' := 8) hB (hE.fit (by omega) (by decide)) (hE.rm (by omega) (by omega)) (H) mm_B_single q_607 q_608 q_609 (by decide) rfl rfl dc_L_single_5 rfl rfl rfl (Nat.le_of_ble_eq_true rfl) (fun v S' hpost => ?_)
  obtain ⟨b0, rfl, hP⟩ := hpost
  show yW o (S') 8 [(0, .ref (o.G.ad (0))), (1, .int (a)), (2, .int (b)), (3, .ref (o.G.ad (31)))] [.int (b0), .int (nI (0)), .ref (o.G.ad (31))]
  refine y_i2l (v := Int32.toInt64 (b0)) (pc' := 9) hB dc_L_single_8 rfl rfl ?_
  refine y_last (c := 31) (n := 1) (j := 0) (pc' := 10) hB dc_L_single_9 rfl (by decide) rfl (by omega) (by decide) ?_
  refine y_goto (tg := 25) hB dc_L_single_10 rfl ?_
  refine y_iconst (v := nI 0) (pc' := 26) hB dc_L_single_25 rfl rfl ?_
  exact y_hret hB hE (by omega) (by omega) dc_L_single_26 ⟨rfl, _, S', hP, rfl⟩
set_option maxHeartbeats 4000000 in
set_option maxRecDepth 100000 in
theorem hp_single_1 (l : Launch) (g : YG) (S : YS) (a : Int32) (b : Int32) (lev : Nat) (hlev : lev ≤ 30) (P : YS → Prop) (H : yX l mn_B_single mb_B_single 6 (some .int) lev g [.ref (g.ad (0)), .int (a), .int (b)] S yXI P) : yHC l mn_L_single mb_L_single 5 (some .int) [(0, 10, 13, 13), (0, 10, 17, 21), (0, 10, 21, 15)] 32 g [.ref (g.ad (0)), .int (a), .int (b), .ref (g.ad (31))] S (fun v S' => v = some (.int (nI 1)) ∧ P S') := by
  refine yHC_of (by decide) (Nat.le_of_ble_eq_true rfl) ?_
  intro o hl hg hz1 hz2 hB0 hE
  subst hl
  subst hg
  have hB : yB o mb_L_single "OrderBenchLaw" := hB0
  have hm := hE.1
  show yW o (S) 0 [(0, .ref (o.G.ad (0))), (1, .int (a)), (2, .int (b)), (3, .ref (o.G.ad (31)))] []
  refine y_aload_n (pc' := 1) hB dc_L_single_0 rfl rfl 3 rfl ?_
  refine y_iconst (v := nI 0) (pc' := 2) hB dc_L_single_1 rfl rfl ?_
  refine y_aload_n (pc' := 3) hB dc_L_single_2 rfl rfl 0 rfl ?_
  refine y_iload_n (pc' := 4) hB dc_L_single_3 rfl rfl 1 rfl ?_
  refine y_iload_n (pc' := 5) hB dc_L_single_4 rfl rfl 2 rfl ?_
  refine y_xV (c := 0) (ci := 0) (As := [.int (a), .int (b)]) (rest := [.int (nI (0)), .ref (o.G.ad (31))]) hB (hE.fit (by omega) (by decide)) (hE.rm (by omega) (by omega)) (H) mm_B_single q_607 q_608 q_609 (by decide) rfl rfl dc_L_single_5 rfl rfl (Nat.le_of_ble_eq_true rfl) (fun S' hpost => ?_)
  exact y_code (pre := []) (suf := [(0, 10, 17, 21), (0, 10, 21, 15)]) (s0 := 0) (e0 := 10) (hp := 13) (ct := 13) (i := 4) (c := 1) hB hE hz1 hz2 rfl (by decide) (by decide) (by decide) (fun z hz => nomatch hz) q_131 q_143 (by decide) dc_L_single_13 dc_L_single_15 dc_L_single_16 ⟨rfl, hpost⟩
set_option maxHeartbeats 4000000 in
set_option maxRecDepth 100000 in
theorem hp_single_2 (l : Launch) (g : YG) (S : YS) (a : Int32) (b : Int32) (lev : Nat) (hlev : lev ≤ 30) (P : YS → Prop) (H : yX l mn_B_single mb_B_single 6 (some .int) lev g [.ref (g.ad (0)), .int (a), .int (b)] S yXA P) : yHC l mn_L_single mb_L_single 5 (some .int) [(0, 10, 13, 13), (0, 10, 17, 21), (0, 10, 21, 15)] 32 g [.ref (g.ad (0)), .int (a), .int (b), .ref (g.ad (31))] S (fun v S' => v = some (.int (nI 2)) ∧ P S') := by
  refine yHC_of (by decide) (Nat.le_of_ble_eq_true rfl) ?_
  intro o hl hg hz1 hz2 hB0 hE
  subst hl
  subst hg
  have hB : yB o mb_L_single "OrderBenchLaw" := hB0
  have hm := hE.1
  show yW o (S) 0 [(0, .ref (o.G.ad (0))), (1, .int (a)), (2, .int (b)), (3, .ref (o.G.ad (31)))] []
  refine y_aload_n (pc' := 1) hB dc_L_single_0 rfl rfl 3 rfl ?_
  refine y_iconst (v := nI 0) (pc' := 2) hB dc_L_single_1 rfl rfl ?_
  refine y_aload_n (pc' := 3) hB dc_L_single_2 rfl rfl 0 rfl ?_
  refine y_iload_n (pc' := 4) hB dc_L_single_3 rfl rfl 1 rfl ?_
  refine y_iload_n (pc' := 5) hB dc_L_single_4 rfl rfl 2 rfl ?_
  refine y_xV (c := 0) (ci := 0) (As := [.int (a), .int (b)]) (rest := [.int (nI (0)), .ref (o.G.ad (31))]) hB (hE.fit (by omega) (by decide)) (hE.rm (by omega) (by omega)) (H) mm_B_single q_607 q_608 q_609 (by decide) rfl rfl dc_L_single_5 rfl rfl (Nat.le_of_ble_eq_true rfl) (fun S' hpost => ?_)
  exact y_code (pre := [(0, 10, 13, 13)]) (suf := [(0, 10, 21, 15)]) (s0 := 0) (e0 := 10) (hp := 17) (ct := 21) (i := 4) (c := 2) hB hE hz1 hz2 rfl (by decide) (by decide) (by decide) (fun z hz => by rw [List.mem_singleton.mp hz]; exact ⟨by decide, "java/lang/IndexOutOfBoundsException", q_131, by decide +kernel⟩) q_232 q_239 (by decide) dc_L_single_17 dc_L_single_19 dc_L_single_20 ⟨rfl, hpost⟩
set_option maxHeartbeats 4000000 in
set_option maxRecDepth 100000 in
theorem hp_single_3 (l : Launch) (g : YG) (S : YS) (a : Int32) (b : Int32) (lev : Nat) (hlev : lev ≤ 30) (P : YS → Prop) (H : yX l mn_B_single mb_B_single 6 (some .int) lev g [.ref (g.ad (0)), .int (a), .int (b)] S yXS P) : yHC l mn_L_single mb_L_single 5 (some .int) [(0, 10, 13, 13), (0, 10, 17, 21), (0, 10, 21, 15)] 32 g [.ref (g.ad (0)), .int (a), .int (b), .ref (g.ad (31))] S (fun v S' => v = some (.int (nI 3)) ∧ P S') := by
  refine yHC_of (by decide) (Nat.le_of_ble_eq_true rfl) ?_
  intro o hl hg hz1 hz2 hB0 hE
  subst hl
  subst hg
  have hB : yB o mb_L_single "OrderBenchLaw" := hB0
  have hm := hE.1
  show yW o (S) 0 [(0, .ref (o.G.ad (0))), (1, .int (a)), (2, .int (b)), (3, .ref (o.G.ad (31)))] []
  refine y_aload_n (pc' := 1) hB dc_L_single_0 rfl rfl 3 rfl ?_
  refine y_iconst (v := nI 0) (pc' := 2) hB dc_L_single_1 rfl rfl ?_
  refine y_aload_n (pc' := 3) hB dc_L_single_2 rfl rfl 0 rfl ?_
  refine y_iload_n (pc' := 4) hB dc_L_single_3 rfl rfl 1 rfl ?_
  refine y_iload_n (pc' := 5) hB dc_L_single_4 rfl rfl 2 rfl ?_
  refine y_xV (c := 0) (ci := 0) (As := [.int (a), .int (b)]) (rest := [.int (nI (0)), .ref (o.G.ad (31))]) hB (hE.fit (by omega) (by decide)) (hE.rm (by omega) (by omega)) (H) mm_B_single q_607 q_608 q_609 (by decide) rfl rfl dc_L_single_5 rfl rfl (Nat.le_of_ble_eq_true rfl) (fun S' hpost => ?_)
  exact y_code (pre := [(0, 10, 13, 13), (0, 10, 17, 21)]) (suf := []) (s0 := 0) (e0 := 10) (hp := 21) (ct := 15) (i := 4) (c := 3) hB hE hz1 hz2 rfl (by decide) (by decide) (by decide) (fun z hz => by rcases List.mem_cons.mp hz with e | hz; rw [e]; exact ⟨by decide, "java/lang/IndexOutOfBoundsException", q_131, by decide +kernel⟩; rw [List.mem_singleton.mp hz]; exact ⟨by decide, "java/lang/IllegalArgumentException", q_232, by decide +kernel⟩) q_132 q_211 (by decide) dc_L_single_21 dc_L_single_23 dc_L_single_24 ⟨rfl, hpost⟩
set_option maxHeartbeats 4000000 in
set_option maxRecDepth 100000 in
theorem hp_front_0 (l : Launch) (g : YG) (S : YS) (a : Int32) (b : Int32) (c : Int32) (lev : Nat) (hlev : lev ≤ 30) (P : YS → Prop) (H : yC l mn_B_front mb_B_front 5 none lev g [.ref (g.ad (0)), .int (a), .int (b), .int (c)] S (fun v S' => v = none ∧ P S')) : yHC l mn_L_front mb_L_front 5 (some .int) [(0, 7, 10, 13), (0, 7, 14, 21)] 32 g [.ref (g.ad (0)), .int (a), .int (b), .int (c)] S (fun v S' => v = some (.int (nI 0)) ∧ P S') := by
  refine yHC_of (by decide) (Nat.le_of_ble_eq_true rfl) ?_
  intro o hl hg hz1 hz2 hB0 hE
  subst hl
  subst hg
  have hB : yB o mb_L_front "OrderBenchLaw" := hB0
  have hm := hE.1
  show yW o (S) 0 [(0, .ref (o.G.ad (0))), (1, .int (a)), (2, .int (b)), (3, .int (c))] []
  refine y_aload_n (pc' := 1) hB dc_L_front_0 rfl rfl 0 rfl ?_
  refine y_iload_n (pc' := 2) hB dc_L_front_1 rfl rfl 1 rfl ?_
  refine y_iload_n (pc' := 3) hB dc_L_front_2 rfl rfl 2 rfl ?_
  refine y_iload_n (pc' := 4) hB dc_L_front_3 rfl rfl 3 rfl ?_
  refine y_gV (c := 0) (ci := 0) (As := [.int (a), .int (b), .int (c)]) (rest := []) (pc' := 7) hB (hE.fit (by omega) (by decide)) (hE.rm (by omega) (by omega)) (H) mm_B_front q_615 q_616 q_617 (by decide) rfl rfl dc_L_front_4 rfl rfl rfl (Nat.le_of_ble_eq_true rfl) (fun v S' hpost => ?_)
  obtain ⟨rfl, hP⟩ := hpost
  show yW o (S') 7 [(0, .ref (o.G.ad (0))), (1, .int (a)), (2, .int (b)), (3, .int (c))] []
  refine y_goto (tg := 18) hB dc_L_front_7 rfl ?_
  refine y_iconst (v := nI 0) (pc' := 19) hB dc_L_front_18 rfl rfl ?_
  exact y_hret hB hE (by omega) (by omega) dc_L_front_19 ⟨rfl, hP⟩
set_option maxHeartbeats 4000000 in
set_option maxRecDepth 100000 in
theorem hp_front_1 (l : Launch) (g : YG) (S : YS) (a : Int32) (b : Int32) (c : Int32) (lev : Nat) (hlev : lev ≤ 30) (P : YS → Prop) (H : yX l mn_B_front mb_B_front 5 none lev g [.ref (g.ad (0)), .int (a), .int (b), .int (c)] S yXI P) : yHC l mn_L_front mb_L_front 5 (some .int) [(0, 7, 10, 13), (0, 7, 14, 21)] 32 g [.ref (g.ad (0)), .int (a), .int (b), .int (c)] S (fun v S' => v = some (.int (nI 1)) ∧ P S') := by
  refine yHC_of (by decide) (Nat.le_of_ble_eq_true rfl) ?_
  intro o hl hg hz1 hz2 hB0 hE
  subst hl
  subst hg
  have hB : yB o mb_L_front "OrderBenchLaw" := hB0
  have hm := hE.1
  show yW o (S) 0 [(0, .ref (o.G.ad (0))), (1, .int (a)), (2, .int (b)), (3, .int (c))] []
  refine y_aload_n (pc' := 1) hB dc_L_front_0 rfl rfl 0 rfl ?_
  refine y_iload_n (pc' := 2) hB dc_L_front_1 rfl rfl 1 rfl ?_
  refine y_iload_n (pc' := 3) hB dc_L_front_2 rfl rfl 2 rfl ?_
  refine y_iload_n (pc' := 4) hB dc_L_front_3 rfl rfl 3 rfl ?_
  refine y_xV (c := 0) (ci := 0) (As := [.int (a), .int (b), .int (c)]) (rest := []) hB (hE.fit (by omega) (by decide)) (hE.rm (by omega) (by omega)) (H) mm_B_front q_615 q_616 q_617 (by decide) rfl rfl dc_L_front_4 rfl rfl (Nat.le_of_ble_eq_true rfl) (fun S' hpost => ?_)
  exact y_code (pre := []) (suf := [(0, 7, 14, 21)]) (s0 := 0) (e0 := 7) (hp := 10) (ct := 13) (i := 4) (c := 1) hB hE hz1 hz2 rfl (by decide) (by decide) (by decide) (fun z hz => nomatch hz) q_131 q_143 (by decide) dc_L_front_10 dc_L_front_12 dc_L_front_13 ⟨rfl, hpost⟩
set_option maxHeartbeats 4000000 in
set_option maxRecDepth 100000 in
theorem hp_front_2 (l : Launch) (g : YG) (S : YS) (a : Int32) (b : Int32) (c : Int32) (lev : Nat) (hlev : lev ≤ 30) (P : YS → Prop) (H : yX l mn_B_front mb_B_front 5 none lev g [.ref (g.ad (0)), .int (a), .int (b), .int (c)] S yXA P) : yHC l mn_L_front mb_L_front 5 (some .int) [(0, 7, 10, 13), (0, 7, 14, 21)] 32 g [.ref (g.ad (0)), .int (a), .int (b), .int (c)] S (fun v S' => v = some (.int (nI 2)) ∧ P S') := by
  refine yHC_of (by decide) (Nat.le_of_ble_eq_true rfl) ?_
  intro o hl hg hz1 hz2 hB0 hE
  subst hl
  subst hg
  have hB : yB o mb_L_front "OrderBenchLaw" := hB0
  have hm := hE.1
  show yW o (S) 0 [(0, .ref (o.G.ad (0))), (1, .int (a)), (2, .int (b)), (3, .int (c))] []
  refine y_aload_n (pc' := 1) hB dc_L_front_0 rfl rfl 0 rfl ?_
  refine y_iload_n (pc' := 2) hB dc_L_front_1 rfl rfl 1 rfl ?_
  refine y_iload_n (pc' := 3) hB dc_L_front_2 rfl rfl 2 rfl ?_
  refine y_iload_n (pc' := 4) hB dc_L_front_3 rfl rfl 3 rfl ?_
  refine y_xV (c := 0) (ci := 0) (As := [.int (a), .int (b), .int (c)]) (rest := []) hB (hE.fit (by omega) (by decide)) (hE.rm (by omega) (by omega)) (H) mm_B_front q_615 q_616 q_617 (by decide) rfl rfl dc_L_front_4 rfl rfl (Nat.le_of_ble_eq_true rfl) (fun S' hpost => ?_)
  exact y_code (pre := [(0, 7, 10, 13)]) (suf := []) (s0 := 0) (e0 := 7) (hp := 14) (ct := 21) (i := 4) (c := 2) hB hE hz1 hz2 rfl (by decide) (by decide) (by decide) (fun z hz => by rw [List.mem_singleton.mp hz]; exact ⟨by decide, "java/lang/IndexOutOfBoundsException", q_131, by decide +kernel⟩) q_232 q_239 (by decide) dc_L_front_14 dc_L_front_16 dc_L_front_17 ⟨rfl, hpost⟩
set_option maxHeartbeats 4000000 in
set_option maxRecDepth 100000 in
theorem hp_mark_0 (l : Launch) (g : YG) (S : YS) (a : Int32) (lev : Nat) (hlev : lev ≤ 30) (P : Int64 → YS → Prop) (H : yC l mn_B_mark mb_B_mark 6 (some .long) lev g [.ref (g.ad (0)), .int (a)] S (fun v S' => ∃ b0 : Int64, v = some (.long b0) ∧ P b0 S')) : yHC l mn_L_mark mb_L_mark 4 (some .int) [(0, 8, 11, 13)] 32 g [.ref (g.ad (0)), .int (a), .ref (g.ad (31))] S (fun v S' => v = some (.int (nI 0)) ∧ ∃ (b0 : Int64) (S1 : YS), P b0 S1 ∧ S' = sL (S1) 31 (vp_updL (gL (S1) 31) 0 (b0))) := by
  refine yHC_of (by decide) (Nat.le_of_ble_eq_true rfl) ?_
  intro o hl hg hz1 hz2 hB0 hE
  subst hl
  subst hg
  have hB : yB o mb_L_mark "OrderBenchLaw" := hB0
  have hm := hE.1
  show yW o (S) 0 [(0, .ref (o.G.ad (0))), (1, .int (a)), (2, .ref (o.G.ad (31)))] []
  refine y_aload_n (pc' := 1) hB dc_L_mark_0 rfl rfl 2 rfl ?_
  refine y_iconst (v := nI 0) (pc' := 2) hB dc_L_mark_1 rfl rfl ?_
  refine y_aload_n (pc' := 3) hB dc_L_mark_2 rfl rfl 0 rfl ?_
  refine y_iload_n (pc' := 4) hB dc_L_mark_3 rfl rfl 1 rfl ?_
  refine y_gV (c := 0) (ci := 0) (As := [.int (a)]) (rest := [.int (nI (0)), .ref (o.G.ad (31))]) (pc' := 7) hB (hE.fit (by omega) (by decide)) (hE.rm (by omega) (by omega)) (H) mm_B_mark q_627 q_628 q_629 (by decide) rfl rfl dc_L_mark_4 rfl rfl rfl (Nat.le_of_ble_eq_true rfl) (fun v S' hpost => ?_)
  obtain ⟨b0, rfl, hP⟩ := hpost
  show yW o (S') 7 [(0, .ref (o.G.ad (0))), (1, .int (a)), (2, .ref (o.G.ad (31)))] [.long (b0), .int (nI (0)), .ref (o.G.ad (31))]
  refine y_last (c := 31) (n := 1) (j := 0) (pc' := 8) hB dc_L_mark_7 rfl (by decide) rfl (by omega) (by decide) ?_
  refine y_goto (tg := 14) hB dc_L_mark_8 rfl ?_
  refine y_iconst (v := nI 0) (pc' := 15) hB dc_L_mark_14 rfl rfl ?_
  exact y_hret hB hE (by omega) (by omega) dc_L_mark_15 ⟨rfl, _, S', hP, rfl⟩
set_option maxHeartbeats 4000000 in
set_option maxRecDepth 100000 in
theorem hp_mark_1 (l : Launch) (g : YG) (S : YS) (a : Int32) (lev : Nat) (hlev : lev ≤ 30) (P : YS → Prop) (H : yX l mn_B_mark mb_B_mark 6 (some .long) lev g [.ref (g.ad (0)), .int (a)] S yXI P) : yHC l mn_L_mark mb_L_mark 4 (some .int) [(0, 8, 11, 13)] 32 g [.ref (g.ad (0)), .int (a), .ref (g.ad (31))] S (fun v S' => v = some (.int (nI 1)) ∧ P S') := by
  refine yHC_of (by decide) (Nat.le_of_ble_eq_true rfl) ?_
  intro o hl hg hz1 hz2 hB0 hE
  subst hl
  subst hg
  have hB : yB o mb_L_mark "OrderBenchLaw" := hB0
  have hm := hE.1
  show yW o (S) 0 [(0, .ref (o.G.ad (0))), (1, .int (a)), (2, .ref (o.G.ad (31)))] []
  refine y_aload_n (pc' := 1) hB dc_L_mark_0 rfl rfl 2 rfl ?_
  refine y_iconst (v := nI 0) (pc' := 2) hB dc_L_mark_1 rfl rfl ?_
  refine y_aload_n (pc' := 3) hB dc_L_mark_2 rfl rfl 0 rfl ?_
  refine y_iload_n (pc' := 4) hB dc_L_mark_3 rfl rfl 1 rfl ?_
  refine y_xV (c := 0) (ci := 0) (As := [.int (a)]) (rest := [.int (nI (0)), .ref (o.G.ad (31))]) hB (hE.fit (by omega) (by decide)) (hE.rm (by omega) (by omega)) (H) mm_B_mark q_627 q_628 q_629 (by decide) rfl rfl dc_L_mark_4 rfl rfl (Nat.le_of_ble_eq_true rfl) (fun S' hpost => ?_)
  exact y_code_n (pre := []) (suf := []) (s0 := 0) (e0 := 8) (hp := 11) (ct := 13) (i := 3) (c := 1) hB hE hz1 hz2 rfl (by decide) (by decide) (by decide) (fun z hz => nomatch hz) q_131 q_143 (by decide) dc_L_mark_11 dc_L_mark_12 dc_L_mark_13 ⟨rfl, hpost⟩
