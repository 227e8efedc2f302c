/-! decode rows (printed by wip/whole/gen4.py) -/
theorem d_R_change1_0 : decode prog_13_method_11_code 0 = .ok (.aload_n 0, 1) := by decide +kernel
theorem d_R_change1_1 : decode prog_13_method_11_code 1 = .ok (.getfield 7, 3) := by decide +kernel
theorem d_R_change1_4 : decode prog_13_method_11_code 4 = .ok (.iload_n 1, 1) := by decide +kernel
theorem d_R_change1_5 : decode prog_13_method_11_code 5 = .ok (.iaload, 1) := by decide +kernel
theorem d_R_change1_6 : decode prog_13_method_11_code 6 = .ok (.istore_n 3, 1) := by decide +kernel
theorem d_R_change1_7 : decode prog_13_method_11_code 7 = .ok (.aload_n 0, 1) := by decide +kernel
theorem d_R_change1_8 : decode prog_13_method_11_code 8 = .ok (.getfield 7, 3) := by decide +kernel
theorem d_R_change1_11 : decode prog_13_method_11_code 11 = .ok (.iload_n 1, 1) := by decide +kernel
theorem d_R_change1_12 : decode prog_13_method_11_code 12 = .ok (.iload_n 2, 1) := by decide +kernel
theorem d_R_change1_13 : decode prog_13_method_11_code 13 = .ok (.iastore, 1) := by decide +kernel
theorem d_R_change1_14 : decode prog_13_method_11_code 14 = .ok (.iload_n 3, 1) := by decide +kernel
theorem d_R_change1_15 : decode prog_13_method_11_code 15 = .ok (.ireturn, 1) := by decide +kernel
theorem d_R_isOut_0 : decode prog_13_method_12_code 0 = .ok (.aload_n 0, 1) := by decide +kernel
theorem d_R_isOut_1 : decode prog_13_method_12_code 1 = .ok (.getfield 7, 3) := by decide +kernel
theorem d_R_isOut_4 : decode prog_13_method_12_code 4 = .ok (.iconst 5, 1) := by decide +kernel
theorem d_R_isOut_5 : decode prog_13_method_12_code 5 = .ok (.iaload, 1) := by decide +kernel
theorem d_R_isOut_6 : decode prog_13_method_12_code 6 = .ok (.iconst 1, 1) := by decide +kernel
theorem d_R_isOut_7 : decode prog_13_method_12_code 7 = .ok (.if_icmp .ne 7, 3) := by decide +kernel
theorem d_R_isOut_10 : decode prog_13_method_12_code 10 = .ok (.iconst 1, 1) := by decide +kernel
theorem d_R_isOut_11 : decode prog_13_method_12_code 11 = .ok (.goto 4, 3) := by decide +kernel
theorem d_R_isOut_14 : decode prog_13_method_12_code 14 = .ok (.iconst 0, 1) := by decide +kernel
theorem d_R_isOut_15 : decode prog_13_method_12_code 15 = .ok (.ireturn, 1) := by decide +kernel
theorem d_R_feed_0 : decode prog_13_method_13_code 0 = .ok (.iload_n 3, 1) := by decide +kernel
theorem d_R_feed_1 : decode prog_13_method_13_code 1 = .ok (.iconst 1, 1) := by decide +kernel
theorem d_R_feed_2 : decode prog_13_method_13_code 2 = .ok (.bipush 8, 2) := by decide +kernel
theorem d_R_feed_4 : decode prog_13_method_13_code 4 = .ok (.invokestatic 51, 3) := by decide +kernel
theorem d_R_feed_7 : decode prog_13_method_13_code 7 = .ok (.ifCond .ne 9, 3) := by decide +kernel
theorem d_R_feed_10 : decode prog_13_method_13_code 10 = .ok (.aload_n 0, 1) := by decide +kernel
theorem d_R_feed_11 : decode prog_13_method_13_code 11 = .ok (.iconst 1, 1) := by decide +kernel
theorem d_R_feed_12 : decode prog_13_method_13_code 12 = .ok (.invokevirtual 55, 3) := by decide +kernel
theorem d_R_feed_15 : decode prog_13_method_13_code 15 = .ok (.ireturn, 1) := by decide +kernel
theorem d_R_feed_16 : decode prog_13_method_13_code 16 = .ok (.aload_n 0, 1) := by decide +kernel
theorem d_R_feed_17 : decode prog_13_method_13_code 17 = .ok (.getfield 7, 3) := by decide +kernel
theorem d_R_feed_20 : decode prog_13_method_13_code 20 = .ok (.bipush 9, 2) := by decide +kernel
theorem d_R_feed_22 : decode prog_13_method_13_code 22 = .ok (.iaload, 1) := by decide +kernel
theorem d_R_feed_23 : decode prog_13_method_13_code 23 = .ok (.iload_n 3, 1) := by decide +kernel
theorem d_R_feed_24 : decode prog_13_method_13_code 24 = .ok (.iadd, 1) := by decide +kernel
theorem d_R_feed_25 : decode prog_13_method_13_code 25 = .ok (.bipush 60, 2) := by decide +kernel
theorem d_R_feed_27 : decode prog_13_method_13_code 27 = .ok (.if_icmp .le 9, 3) := by decide +kernel
theorem d_R_feed_30 : decode prog_13_method_13_code 30 = .ok (.aload_n 0, 1) := by decide +kernel
theorem d_R_feed_31 : decode prog_13_method_13_code 31 = .ok (.iconst 4, 1) := by decide +kernel
theorem d_R_feed_32 : decode prog_13_method_13_code 32 = .ok (.invokevirtual 55, 3) := by decide +kernel
theorem d_R_feed_35 : decode prog_13_method_13_code 35 = .ok (.ireturn, 1) := by decide +kernel
theorem d_R_feed_36 : decode prog_13_method_13_code 36 = .ok (.iconst 0, 1) := by decide +kernel
theorem d_R_feed_37 : decode prog_13_method_13_code 37 = .ok (.istore 4, 2) := by decide +kernel
theorem d_R_feed_39 : decode prog_13_method_13_code 39 = .ok (.iload 4, 2) := by decide +kernel
theorem d_R_feed_41 : decode prog_13_method_13_code 41 = .ok (.iload_n 3, 1) := by decide +kernel
theorem d_R_feed_42 : decode prog_13_method_13_code 42 = .ok (.if_icmp .ge 48, 3) := by decide +kernel
theorem d_R_feed_45 : decode prog_13_method_13_code 45 = .ok (.aload_n 0, 1) := by decide +kernel
theorem d_R_feed_46 : decode prog_13_method_13_code 46 = .ok (.getfield 7, 3) := by decide +kernel
theorem d_R_feed_49 : decode prog_13_method_13_code 49 = .ok (.sipush 274, 3) := by decide +kernel
theorem d_R_feed_52 : decode prog_13_method_13_code 52 = .ok (.aload_n 0, 1) := by decide +kernel
theorem d_R_feed_53 : decode prog_13_method_13_code 53 = .ok (.getfield 7, 3) := by decide +kernel
theorem d_R_feed_56 : decode prog_13_method_13_code 56 = .ok (.bipush 9, 2) := by decide +kernel
theorem d_R_feed_58 : decode prog_13_method_13_code 58 = .ok (.iaload, 1) := by decide +kernel
theorem d_R_feed_59 : decode prog_13_method_13_code 59 = .ok (.iadd, 1) := by decide +kernel
theorem d_R_feed_60 : decode prog_13_method_13_code 60 = .ok (.lload_n 1, 1) := by decide +kernel
theorem d_R_feed_61 : decode prog_13_method_13_code 61 = .ok (.bipush 8, 2) := by decide +kernel
theorem d_R_feed_63 : decode prog_13_method_13_code 63 = .ok (.iload 4, 2) := by decide +kernel
theorem d_R_feed_65 : decode prog_13_method_13_code 65 = .ok (.imul, 1) := by decide +kernel
theorem d_R_feed_66 : decode prog_13_method_13_code 66 = .ok (.lshr, 1) := by decide +kernel
theorem d_R_feed_67 : decode prog_13_method_13_code 67 = .ok (.ldc2_w 59, 3) := by decide +kernel
theorem d_R_feed_70 : decode prog_13_method_13_code 70 = .ok (.land, 1) := by decide +kernel
theorem d_R_feed_71 : decode prog_13_method_13_code 71 = .ok (.l2i, 1) := by decide +kernel
theorem d_R_feed_72 : decode prog_13_method_13_code 72 = .ok (.iastore, 1) := by decide +kernel
theorem d_R_feed_73 : decode prog_13_method_13_code 73 = .ok (.aload_n 0, 1) := by decide +kernel
theorem d_R_feed_74 : decode prog_13_method_13_code 74 = .ok (.getfield 7, 3) := by decide +kernel
theorem d_R_feed_77 : decode prog_13_method_13_code 77 = .ok (.bipush 9, 2) := by decide +kernel
theorem d_R_feed_79 : decode prog_13_method_13_code 79 = .ok (.dup2, 1) := by decide +kernel
theorem d_R_feed_80 : decode prog_13_method_13_code 80 = .ok (.iaload, 1) := by decide +kernel
theorem d_R_feed_81 : decode prog_13_method_13_code 81 = .ok (.iconst 1, 1) := by decide +kernel
theorem d_R_feed_82 : decode prog_13_method_13_code 82 = .ok (.iadd, 1) := by decide +kernel
theorem d_R_feed_83 : decode prog_13_method_13_code 83 = .ok (.iastore, 1) := by decide +kernel
theorem d_R_feed_84 : decode prog_13_method_13_code 84 = .ok (.iinc 4 1, 3) := by decide +kernel
theorem d_R_feed_87 : decode prog_13_method_13_code 87 = .ok (.goto (-48), 3) := by decide +kernel
theorem d_R_feed_90 : decode prog_13_method_13_code 90 = .ok (.aload_n 0, 1) := by decide +kernel
theorem d_R_feed_91 : decode prog_13_method_13_code 91 = .ok (.getfield 7, 3) := by decide +kernel
theorem d_R_feed_94 : decode prog_13_method_13_code 94 = .ok (.bipush 9, 2) := by decide +kernel
theorem d_R_feed_96 : decode prog_13_method_13_code 96 = .ok (.iaload, 1) := by decide +kernel
theorem d_R_feed_97 : decode prog_13_method_13_code 97 = .ok (.ireturn, 1) := by decide +kernel
theorem d_R_look_0 : decode prog_13_method_14_code 0 = .ok (.aload_n 0, 1) := by decide +kernel
theorem d_R_look_1 : decode prog_13_method_14_code 1 = .ok (.getfield 61, 3) := by decide +kernel
theorem d_R_look_4 : decode prog_13_method_14_code 4 = .ok (.aload_n 0, 1) := by decide +kernel
theorem d_R_look_5 : decode prog_13_method_14_code 5 = .ok (.getfield 7, 3) := by decide +kernel
theorem d_R_look_8 : decode prog_13_method_14_code 8 = .ok (.bipush 9, 2) := by decide +kernel
theorem d_R_look_10 : decode prog_13_method_14_code 10 = .ok (.iaload, 1) := by decide +kernel
theorem d_R_look_11 : decode prog_13_method_14_code 11 = .ok (.if_icmp .ge 19, 3) := by decide +kernel
theorem d_R_look_14 : decode prog_13_method_14_code 14 = .ok (.aload_n 0, 1) := by decide +kernel
theorem d_R_look_15 : decode prog_13_method_14_code 15 = .ok (.getfield 7, 3) := by decide +kernel
theorem d_R_look_18 : decode prog_13_method_14_code 18 = .ok (.sipush 274, 3) := by decide +kernel
theorem d_R_look_21 : decode prog_13_method_14_code 21 = .ok (.aload_n 0, 1) := by decide +kernel
theorem d_R_look_22 : decode prog_13_method_14_code 22 = .ok (.getfield 61, 3) := by decide +kernel
theorem d_R_look_25 : decode prog_13_method_14_code 25 = .ok (.iadd, 1) := by decide +kernel
theorem d_R_look_26 : decode prog_13_method_14_code 26 = .ok (.iaload, 1) := by decide +kernel
theorem d_R_look_27 : decode prog_13_method_14_code 27 = .ok (.goto 4, 3) := by decide +kernel
theorem d_R_look_30 : decode prog_13_method_14_code 30 = .ok (.iconst (-1), 1) := by decide +kernel
theorem d_R_look_31 : decode prog_13_method_14_code 31 = .ok (.ireturn, 1) := by decide +kernel
theorem d_R_isName_0 : decode prog_13_method_15_code 0 = .ok (.iload_n 1, 1) := by decide +kernel
theorem d_R_isName_1 : decode prog_13_method_15_code 1 = .ok (.bipush 100, 2) := by decide +kernel
theorem d_R_isName_3 : decode prog_13_method_15_code 3 = .ok (.if_icmp .ne 5, 3) := by decide +kernel
theorem d_R_isName_6 : decode prog_13_method_15_code 6 = .ok (.iconst 1, 1) := by decide +kernel
theorem d_R_isName_7 : decode prog_13_method_15_code 7 = .ok (.ireturn, 1) := by decide +kernel
theorem d_R_isName_8 : decode prog_13_method_15_code 8 = .ok (.aload_n 0, 1) := by decide +kernel
theorem d_R_isName_9 : decode prog_13_method_15_code 9 = .ok (.getfield 64, 3) := by decide +kernel
theorem d_R_isName_12 : decode prog_13_method_15_code 12 = .ok (.ifCond .ne 23, 3) := by decide +kernel
theorem d_R_isName_15 : decode prog_13_method_15_code 15 = .ok (.iload_n 1, 1) := by decide +kernel
theorem d_R_isName_16 : decode prog_13_method_15_code 16 = .ok (.bipush 105, 2) := by decide +kernel
theorem d_R_isName_18 : decode prog_13_method_15_code 18 = .ok (.if_icmp .eq 9, 3) := by decide +kernel
theorem d_R_isName_21 : decode prog_13_method_15_code 21 = .ok (.iload_n 1, 1) := by decide +kernel
theorem d_R_isName_22 : decode prog_13_method_15_code 22 = .ok (.bipush 119, 2) := by decide +kernel
theorem d_R_isName_24 : decode prog_13_method_15_code 24 = .ok (.if_icmp .ne 7, 3) := by decide +kernel
theorem d_R_isName_27 : decode prog_13_method_15_code 27 = .ok (.iconst 1, 1) := by decide +kernel
theorem d_R_isName_28 : decode prog_13_method_15_code 28 = .ok (.goto 24, 3) := by decide +kernel
theorem d_R_isName_31 : decode prog_13_method_15_code 31 = .ok (.iconst 0, 1) := by decide +kernel
theorem d_R_isName_32 : decode prog_13_method_15_code 32 = .ok (.goto 20, 3) := by decide +kernel
theorem d_R_isName_35 : decode prog_13_method_15_code 35 = .ok (.iload_n 1, 1) := by decide +kernel
theorem d_R_isName_36 : decode prog_13_method_15_code 36 = .ok (.bipush 104, 2) := by decide +kernel
theorem d_R_isName_38 : decode prog_13_method_15_code 38 = .ok (.if_icmp .eq 9, 3) := by decide +kernel
theorem d_R_isName_41 : decode prog_13_method_15_code 41 = .ok (.iload_n 1, 1) := by decide +kernel
theorem d_R_isName_42 : decode prog_13_method_15_code 42 = .ok (.bipush 110, 2) := by decide +kernel
theorem d_R_isName_44 : decode prog_13_method_15_code 44 = .ok (.if_icmp .ne 7, 3) := by decide +kernel
theorem d_R_isName_47 : decode prog_13_method_15_code 47 = .ok (.iconst 1, 1) := by decide +kernel
theorem d_R_isName_48 : decode prog_13_method_15_code 48 = .ok (.goto 4, 3) := by decide +kernel
theorem d_R_isName_51 : decode prog_13_method_15_code 51 = .ok (.iconst 0, 1) := by decide +kernel
theorem d_R_isName_52 : decode prog_13_method_15_code 52 = .ok (.ireturn, 1) := by decide +kernel
theorem d_R_step1_0 : decode prog_13_method_16_code 0 = .ok (.aload_n 0, 1) := by decide +kernel
theorem d_R_step1_1 : decode prog_13_method_16_code 1 = .ok (.getfield 26, 3) := by decide +kernel
theorem d_R_step1_4 : decode prog_13_method_16_code 4 = .ok (.iconst 2, 1) := by decide +kernel
theorem d_R_step1_5 : decode prog_13_method_16_code 5 = .ok (.aload_n 0, 1) := by decide +kernel
theorem d_R_step1_6 : decode prog_13_method_16_code 6 = .ok (.getfield 67, 3) := by decide +kernel
theorem d_R_step1_9 : decode prog_13_method_16_code 9 = .ok (.imul, 1) := by decide +kernel
theorem d_R_step1_10 : decode prog_13_method_16_code 10 = .ok (.iload_n 1, 1) := by decide +kernel
theorem d_R_step1_11 : decode prog_13_method_16_code 11 = .ok (.iastore, 1) := by decide +kernel
theorem d_R_step1_12 : decode prog_13_method_16_code 12 = .ok (.aload_n 0, 1) := by decide +kernel
theorem d_R_step1_13 : decode prog_13_method_16_code 13 = .ok (.getfield 26, 3) := by decide +kernel
theorem d_R_step1_16 : decode prog_13_method_16_code 16 = .ok (.iconst 2, 1) := by decide +kernel
theorem d_R_step1_17 : decode prog_13_method_16_code 17 = .ok (.aload_n 0, 1) := by decide +kernel
theorem d_R_step1_18 : decode prog_13_method_16_code 18 = .ok (.getfield 67, 3) := by decide +kernel
theorem d_R_step1_21 : decode prog_13_method_16_code 21 = .ok (.imul, 1) := by decide +kernel
theorem d_R_step1_22 : decode prog_13_method_16_code 22 = .ok (.iconst 1, 1) := by decide +kernel
theorem d_R_step1_23 : decode prog_13_method_16_code 23 = .ok (.iadd, 1) := by decide +kernel
theorem d_R_step1_24 : decode prog_13_method_16_code 24 = .ok (.iload_n 2, 1) := by decide +kernel
theorem d_R_step1_25 : decode prog_13_method_16_code 25 = .ok (.iastore, 1) := by decide +kernel
theorem d_R_step1_26 : decode prog_13_method_16_code 26 = .ok (.aload_n 0, 1) := by decide +kernel
theorem d_R_step1_27 : decode prog_13_method_16_code 27 = .ok (.dup, 1) := by decide +kernel
theorem d_R_step1_28 : decode prog_13_method_16_code 28 = .ok (.getfield 67, 3) := by decide +kernel
theorem d_R_step1_31 : decode prog_13_method_16_code 31 = .ok (.iconst 1, 1) := by decide +kernel
theorem d_R_step1_32 : decode prog_13_method_16_code 32 = .ok (.iadd, 1) := by decide +kernel
theorem d_R_step1_33 : decode prog_13_method_16_code 33 = .ok (.putfield 67, 3) := by decide +kernel
theorem d_R_step1_36 : decode prog_13_method_16_code 36 = .ok (.return_, 1) := by decide +kernel
theorem d_R_whole_0 : decode prog_13_method_17_code 0 = .ok (.aload_n 0, 1) := by decide +kernel
theorem d_R_whole_1 : decode prog_13_method_17_code 1 = .ok (.invokevirtual 70, 3) := by decide +kernel
theorem d_R_whole_4 : decode prog_13_method_17_code 4 = .ok (.ifCond .ne 5, 3) := by decide +kernel
theorem d_R_whole_7 : decode prog_13_method_17_code 7 = .ok (.iconst 0, 1) := by decide +kernel
theorem d_R_whole_8 : decode prog_13_method_17_code 8 = .ok (.ireturn, 1) := by decide +kernel
theorem d_R_whole_9 : decode prog_13_method_17_code 9 = .ok (.aload_n 0, 1) := by decide +kernel
theorem d_R_whole_10 : decode prog_13_method_17_code 10 = .ok (.invokevirtual 74, 3) := by decide +kernel
theorem d_R_whole_13 : decode prog_13_method_17_code 13 = .ok (.bipush 124, 2) := by decide +kernel
theorem d_R_whole_15 : decode prog_13_method_17_code 15 = .ok (.if_icmp .ne 32, 3) := by decide +kernel
theorem d_R_whole_18 : decode prog_13_method_17_code 18 = .ok (.aload_n 0, 1) := by decide +kernel
theorem d_R_whole_19 : decode prog_13_method_17_code 19 = .ok (.dup, 1) := by decide +kernel
theorem d_R_whole_20 : decode prog_13_method_17_code 20 = .ok (.getfield 61, 3) := by decide +kernel
theorem d_R_whole_23 : decode prog_13_method_17_code 23 = .ok (.iconst 1, 1) := by decide +kernel
theorem d_R_whole_24 : decode prog_13_method_17_code 24 = .ok (.iadd, 1) := by decide +kernel
theorem d_R_whole_25 : decode prog_13_method_17_code 25 = .ok (.putfield 61, 3) := by decide +kernel
theorem d_R_whole_28 : decode prog_13_method_17_code 28 = .ok (.aload_n 0, 1) := by decide +kernel
theorem d_R_whole_29 : decode prog_13_method_17_code 29 = .ok (.invokevirtual 70, 3) := by decide +kernel
theorem d_R_whole_32 : decode prog_13_method_17_code 32 = .ok (.ifCond .ne 5, 3) := by decide +kernel
theorem d_R_whole_35 : decode prog_13_method_17_code 35 = .ok (.iconst 0, 1) := by decide +kernel
theorem d_R_whole_36 : decode prog_13_method_17_code 36 = .ok (.ireturn, 1) := by decide +kernel
theorem d_R_whole_37 : decode prog_13_method_17_code 37 = .ok (.aload_n 0, 1) := by decide +kernel
theorem d_R_whole_38 : decode prog_13_method_17_code 38 = .ok (.iconst 3, 1) := by decide +kernel
theorem d_R_whole_39 : decode prog_13_method_17_code 39 = .ok (.bipush 124, 2) := by decide +kernel
theorem d_R_whole_41 : decode prog_13_method_17_code 41 = .ok (.invokevirtual 78, 3) := by decide +kernel
theorem d_R_whole_44 : decode prog_13_method_17_code 44 = .ok (.goto (-35), 3) := by decide +kernel
theorem d_R_whole_47 : decode prog_13_method_17_code 47 = .ok (.iconst 1, 1) := by decide +kernel
theorem d_R_whole_48 : decode prog_13_method_17_code 48 = .ok (.ireturn, 1) := by decide +kernel
theorem d_R_both_0 : decode prog_13_method_18_code 0 = .ok (.aload_n 0, 1) := by decide +kernel
theorem d_R_both_1 : decode prog_13_method_18_code 1 = .ok (.invokevirtual 82, 3) := by decide +kernel
theorem d_R_both_4 : decode prog_13_method_18_code 4 = .ok (.ifCond .ne 5, 3) := by decide +kernel
theorem d_R_both_7 : decode prog_13_method_18_code 7 = .ok (.iconst 0, 1) := by decide +kernel
theorem d_R_both_8 : decode prog_13_method_18_code 8 = .ok (.ireturn, 1) := by decide +kernel
theorem d_R_both_9 : decode prog_13_method_18_code 9 = .ok (.aload_n 0, 1) := by decide +kernel
theorem d_R_both_10 : decode prog_13_method_18_code 10 = .ok (.invokevirtual 74, 3) := by decide +kernel
theorem d_R_both_13 : decode prog_13_method_18_code 13 = .ok (.bipush 38, 2) := by decide +kernel
theorem d_R_both_15 : decode prog_13_method_18_code 15 = .ok (.if_icmp .ne 32, 3) := by decide +kernel
theorem d_R_both_18 : decode prog_13_method_18_code 18 = .ok (.aload_n 0, 1) := by decide +kernel
theorem d_R_both_19 : decode prog_13_method_18_code 19 = .ok (.dup, 1) := by decide +kernel
theorem d_R_both_20 : decode prog_13_method_18_code 20 = .ok (.getfield 61, 3) := by decide +kernel
theorem d_R_both_23 : decode prog_13_method_18_code 23 = .ok (.iconst 1, 1) := by decide +kernel
theorem d_R_both_24 : decode prog_13_method_18_code 24 = .ok (.iadd, 1) := by decide +kernel
theorem d_R_both_25 : decode prog_13_method_18_code 25 = .ok (.putfield 61, 3) := by decide +kernel
theorem d_R_both_28 : decode prog_13_method_18_code 28 = .ok (.aload_n 0, 1) := by decide +kernel
theorem d_R_both_29 : decode prog_13_method_18_code 29 = .ok (.invokevirtual 82, 3) := by decide +kernel
theorem d_R_both_32 : decode prog_13_method_18_code 32 = .ok (.ifCond .ne 5, 3) := by decide +kernel
theorem d_R_both_35 : decode prog_13_method_18_code 35 = .ok (.iconst 0, 1) := by decide +kernel
theorem d_R_both_36 : decode prog_13_method_18_code 36 = .ok (.ireturn, 1) := by decide +kernel
theorem d_R_both_37 : decode prog_13_method_18_code 37 = .ok (.aload_n 0, 1) := by decide +kernel
theorem d_R_both_38 : decode prog_13_method_18_code 38 = .ok (.iconst 3, 1) := by decide +kernel
theorem d_R_both_39 : decode prog_13_method_18_code 39 = .ok (.bipush 38, 2) := by decide +kernel
theorem d_R_both_41 : decode prog_13_method_18_code 41 = .ok (.invokevirtual 78, 3) := by decide +kernel
theorem d_R_both_44 : decode prog_13_method_18_code 44 = .ok (.goto (-35), 3) := by decide +kernel
theorem d_R_both_47 : decode prog_13_method_18_code 47 = .ok (.iconst 1, 1) := by decide +kernel
theorem d_R_both_48 : decode prog_13_method_18_code 48 = .ok (.ireturn, 1) := by decide +kernel
theorem d_R_compared_0 : decode prog_13_method_19_code 0 = .ok (.aload_n 0, 1) := by decide +kernel
theorem d_R_compared_1 : decode prog_13_method_19_code 1 = .ok (.invokevirtual 85, 3) := by decide +kernel
theorem d_R_compared_4 : decode prog_13_method_19_code 4 = .ok (.ifCond .ne 5, 3) := by decide +kernel
theorem d_R_compared_7 : decode prog_13_method_19_code 7 = .ok (.iconst 0, 1) := by decide +kernel
theorem d_R_compared_8 : decode prog_13_method_19_code 8 = .ok (.ireturn, 1) := by decide +kernel
theorem d_R_compared_9 : decode prog_13_method_19_code 9 = .ok (.aload_n 0, 1) := by decide +kernel
theorem d_R_compared_10 : decode prog_13_method_19_code 10 = .ok (.invokevirtual 74, 3) := by decide +kernel
theorem d_R_compared_13 : decode prog_13_method_19_code 13 = .ok (.istore_n 1, 1) := by decide +kernel
theorem d_R_compared_14 : decode prog_13_method_19_code 14 = .ok (.iload_n 1, 1) := by decide +kernel
theorem d_R_compared_15 : decode prog_13_method_19_code 15 = .ok (.bipush 60, 2) := by decide +kernel
theorem d_R_compared_17 : decode prog_13_method_19_code 17 = .ok (.if_icmp .eq 17, 3) := by decide +kernel
theorem d_R_compared_20 : decode prog_13_method_19_code 20 = .ok (.iload_n 1, 1) := by decide +kernel
theorem d_R_compared_21 : decode prog_13_method_19_code 21 = .ok (.bipush 61, 2) := by decide +kernel
theorem d_R_compared_23 : decode prog_13_method_19_code 23 = .ok (.if_icmp .eq 11, 3) := by decide +kernel
theorem d_R_compared_26 : decode prog_13_method_19_code 26 = .ok (.iload_n 1, 1) := by decide +kernel
theorem d_R_compared_27 : decode prog_13_method_19_code 27 = .ok (.bipush 62, 2) := by decide +kernel
theorem d_R_compared_29 : decode prog_13_method_19_code 29 = .ok (.if_icmp .eq 5, 3) := by decide +kernel
theorem d_R_compared_32 : decode prog_13_method_19_code 32 = .ok (.iconst 1, 1) := by decide +kernel
theorem d_R_compared_33 : decode prog_13_method_19_code 33 = .ok (.ireturn, 1) := by decide +kernel
theorem d_R_compared_34 : decode prog_13_method_19_code 34 = .ok (.aload_n 0, 1) := by decide +kernel
theorem d_R_compared_35 : decode prog_13_method_19_code 35 = .ok (.dup, 1) := by decide +kernel
theorem d_R_compared_36 : decode prog_13_method_19_code 36 = .ok (.getfield 61, 3) := by decide +kernel
theorem d_R_compared_39 : decode prog_13_method_19_code 39 = .ok (.iconst 1, 1) := by decide +kernel
theorem d_R_compared_40 : decode prog_13_method_19_code 40 = .ok (.iadd, 1) := by decide +kernel
theorem d_R_compared_41 : decode prog_13_method_19_code 41 = .ok (.putfield 61, 3) := by decide +kernel
theorem d_R_compared_44 : decode prog_13_method_19_code 44 = .ok (.aload_n 0, 1) := by decide +kernel
theorem d_R_compared_45 : decode prog_13_method_19_code 45 = .ok (.invokevirtual 85, 3) := by decide +kernel
theorem d_R_compared_48 : decode prog_13_method_19_code 48 = .ok (.ifCond .ne 5, 3) := by decide +kernel
theorem d_R_compared_51 : decode prog_13_method_19_code 51 = .ok (.iconst 0, 1) := by decide +kernel
theorem d_R_compared_52 : decode prog_13_method_19_code 52 = .ok (.ireturn, 1) := by decide +kernel
theorem d_R_compared_53 : decode prog_13_method_19_code 53 = .ok (.aload_n 0, 1) := by decide +kernel
theorem d_R_compared_54 : decode prog_13_method_19_code 54 = .ok (.iconst 3, 1) := by decide +kernel
theorem d_R_compared_55 : decode prog_13_method_19_code 55 = .ok (.iload_n 1, 1) := by decide +kernel
theorem d_R_compared_56 : decode prog_13_method_19_code 56 = .ok (.invokevirtual 78, 3) := by decide +kernel
theorem d_R_compared_59 : decode prog_13_method_19_code 59 = .ok (.iconst 1, 1) := by decide +kernel
theorem d_R_compared_60 : decode prog_13_method_19_code 60 = .ok (.ireturn, 1) := by decide +kernel
theorem d_R_sum_0 : decode prog_13_method_20_code 0 = .ok (.aload_n 0, 1) := by decide +kernel
theorem d_R_sum_1 : decode prog_13_method_20_code 1 = .ok (.invokevirtual 88, 3) := by decide +kernel
theorem d_R_sum_4 : decode prog_13_method_20_code 4 = .ok (.ifCond .ne 5, 3) := by decide +kernel
theorem d_R_sum_7 : decode prog_13_method_20_code 7 = .ok (.iconst 0, 1) := by decide +kernel
theorem d_R_sum_8 : decode prog_13_method_20_code 8 = .ok (.ireturn, 1) := by decide +kernel
theorem d_R_sum_9 : decode prog_13_method_20_code 9 = .ok (.aload_n 0, 1) := by decide +kernel
theorem d_R_sum_10 : decode prog_13_method_20_code 10 = .ok (.invokevirtual 74, 3) := by decide +kernel
theorem d_R_sum_13 : decode prog_13_method_20_code 13 = .ok (.bipush 43, 2) := by decide +kernel
theorem d_R_sum_15 : decode prog_13_method_20_code 15 = .ok (.if_icmp .eq 12, 3) := by decide +kernel
theorem d_R_sum_18 : decode prog_13_method_20_code 18 = .ok (.aload_n 0, 1) := by decide +kernel
theorem d_R_sum_19 : decode prog_13_method_20_code 19 = .ok (.invokevirtual 74, 3) := by decide +kernel
theorem d_R_sum_22 : decode prog_13_method_20_code 22 = .ok (.bipush 45, 2) := by decide +kernel
theorem d_R_sum_24 : decode prog_13_method_20_code 24 = .ok (.if_icmp .ne 36, 3) := by decide +kernel
theorem d_R_sum_27 : decode prog_13_method_20_code 27 = .ok (.aload_n 0, 1) := by decide +kernel
theorem d_R_sum_28 : decode prog_13_method_20_code 28 = .ok (.invokevirtual 74, 3) := by decide +kernel
theorem d_R_sum_31 : decode prog_13_method_20_code 31 = .ok (.istore_n 1, 1) := by decide +kernel
theorem d_R_sum_32 : decode prog_13_method_20_code 32 = .ok (.aload_n 0, 1) := by decide +kernel
theorem d_R_sum_33 : decode prog_13_method_20_code 33 = .ok (.dup, 1) := by decide +kernel
theorem d_R_sum_34 : decode prog_13_method_20_code 34 = .ok (.getfield 61, 3) := by decide +kernel
theorem d_R_sum_37 : decode prog_13_method_20_code 37 = .ok (.iconst 1, 1) := by decide +kernel
theorem d_R_sum_38 : decode prog_13_method_20_code 38 = .ok (.iadd, 1) := by decide +kernel
theorem d_R_sum_39 : decode prog_13_method_20_code 39 = .ok (.putfield 61, 3) := by decide +kernel
theorem d_R_sum_42 : decode prog_13_method_20_code 42 = .ok (.aload_n 0, 1) := by decide +kernel
theorem d_R_sum_43 : decode prog_13_method_20_code 43 = .ok (.invokevirtual 88, 3) := by decide +kernel
theorem d_R_sum_46 : decode prog_13_method_20_code 46 = .ok (.ifCond .ne 5, 3) := by decide +kernel
theorem d_R_sum_49 : decode prog_13_method_20_code 49 = .ok (.iconst 0, 1) := by decide +kernel
theorem d_R_sum_50 : decode prog_13_method_20_code 50 = .ok (.ireturn, 1) := by decide +kernel
theorem d_R_sum_51 : decode prog_13_method_20_code 51 = .ok (.aload_n 0, 1) := by decide +kernel
theorem d_R_sum_52 : decode prog_13_method_20_code 52 = .ok (.iconst 3, 1) := by decide +kernel
theorem d_R_sum_53 : decode prog_13_method_20_code 53 = .ok (.iload_n 1, 1) := by decide +kernel
theorem d_R_sum_54 : decode prog_13_method_20_code 54 = .ok (.invokevirtual 78, 3) := by decide +kernel
theorem d_R_sum_57 : decode prog_13_method_20_code 57 = .ok (.goto (-48), 3) := by decide +kernel
theorem d_R_sum_60 : decode prog_13_method_20_code 60 = .ok (.iconst 1, 1) := by decide +kernel
theorem d_R_sum_61 : decode prog_13_method_20_code 61 = .ok (.ireturn, 1) := by decide +kernel
theorem d_R_product_0 : decode prog_13_method_21_code 0 = .ok (.aload_n 0, 1) := by decide +kernel
theorem d_R_product_1 : decode prog_13_method_21_code 1 = .ok (.invokevirtual 91, 3) := by decide +kernel
theorem d_R_product_4 : decode prog_13_method_21_code 4 = .ok (.ifCond .ne 5, 3) := by decide +kernel
theorem d_R_product_7 : decode prog_13_method_21_code 7 = .ok (.iconst 0, 1) := by decide +kernel
theorem d_R_product_8 : decode prog_13_method_21_code 8 = .ok (.ireturn, 1) := by decide +kernel
theorem d_R_product_9 : decode prog_13_method_21_code 9 = .ok (.aload_n 0, 1) := by decide +kernel
theorem d_R_product_10 : decode prog_13_method_21_code 10 = .ok (.invokevirtual 74, 3) := by decide +kernel
theorem d_R_product_13 : decode prog_13_method_21_code 13 = .ok (.bipush 42, 2) := by decide +kernel
theorem d_R_product_15 : decode prog_13_method_21_code 15 = .ok (.if_icmp .eq 21, 3) := by decide +kernel
theorem d_R_product_18 : decode prog_13_method_21_code 18 = .ok (.aload_n 0, 1) := by decide +kernel
theorem d_R_product_19 : decode prog_13_method_21_code 19 = .ok (.invokevirtual 74, 3) := by decide +kernel
theorem d_R_product_22 : decode prog_13_method_21_code 22 = .ok (.bipush 47, 2) := by decide +kernel
theorem d_R_product_24 : decode prog_13_method_21_code 24 = .ok (.if_icmp .eq 12, 3) := by decide +kernel
theorem d_R_product_27 : decode prog_13_method_21_code 27 = .ok (.aload_n 0, 1) := by decide +kernel
theorem d_R_product_28 : decode prog_13_method_21_code 28 = .ok (.invokevirtual 74, 3) := by decide +kernel
theorem d_R_product_31 : decode prog_13_method_21_code 31 = .ok (.bipush 37, 2) := by decide +kernel
theorem d_R_product_33 : decode prog_13_method_21_code 33 = .ok (.if_icmp .ne 36, 3) := by decide +kernel
theorem d_R_product_36 : decode prog_13_method_21_code 36 = .ok (.aload_n 0, 1) := by decide +kernel
theorem d_R_product_37 : decode prog_13_method_21_code 37 = .ok (.invokevirtual 74, 3) := by decide +kernel
theorem d_R_product_40 : decode prog_13_method_21_code 40 = .ok (.istore_n 1, 1) := by decide +kernel
theorem d_R_product_41 : decode prog_13_method_21_code 41 = .ok (.aload_n 0, 1) := by decide +kernel
theorem d_R_product_42 : decode prog_13_method_21_code 42 = .ok (.dup, 1) := by decide +kernel
theorem d_R_product_43 : decode prog_13_method_21_code 43 = .ok (.getfield 61, 3) := by decide +kernel
theorem d_R_product_46 : decode prog_13_method_21_code 46 = .ok (.iconst 1, 1) := by decide +kernel
theorem d_R_product_47 : decode prog_13_method_21_code 47 = .ok (.iadd, 1) := by decide +kernel
theorem d_R_product_48 : decode prog_13_method_21_code 48 = .ok (.putfield 61, 3) := by decide +kernel
theorem d_R_product_51 : decode prog_13_method_21_code 51 = .ok (.aload_n 0, 1) := by decide +kernel
theorem d_R_product_52 : decode prog_13_method_21_code 52 = .ok (.invokevirtual 91, 3) := by decide +kernel
theorem d_R_product_55 : decode prog_13_method_21_code 55 = .ok (.ifCond .ne 5, 3) := by decide +kernel
theorem d_R_product_58 : decode prog_13_method_21_code 58 = .ok (.iconst 0, 1) := by decide +kernel
theorem d_R_product_59 : decode prog_13_method_21_code 59 = .ok (.ireturn, 1) := by decide +kernel
theorem d_R_product_60 : decode prog_13_method_21_code 60 = .ok (.aload_n 0, 1) := by decide +kernel
theorem d_R_product_61 : decode prog_13_method_21_code 61 = .ok (.iconst 3, 1) := by decide +kernel
theorem d_R_product_62 : decode prog_13_method_21_code 62 = .ok (.iload_n 1, 1) := by decide +kernel
theorem d_R_product_63 : decode prog_13_method_21_code 63 = .ok (.invokevirtual 78, 3) := by decide +kernel
theorem d_R_product_66 : decode prog_13_method_21_code 66 = .ok (.goto (-57), 3) := by decide +kernel
theorem d_R_product_69 : decode prog_13_method_21_code 69 = .ok (.iconst 1, 1) := by decide +kernel
theorem d_R_product_70 : decode prog_13_method_21_code 70 = .ok (.ireturn, 1) := by decide +kernel
theorem d_R_opens_0 : decode prog_13_method_22_code 0 = .ok (.aload_n 0, 1) := by decide +kernel
theorem d_R_opens_1 : decode prog_13_method_22_code 1 = .ok (.getfield 94, 3) := by decide +kernel
theorem d_R_opens_4 : decode prog_13_method_22_code 4 = .ok (.iconst 5, 1) := by decide +kernel
theorem d_R_opens_5 : decode prog_13_method_22_code 5 = .ok (.if_icmp .ne 5, 3) := by decide +kernel
theorem d_R_opens_8 : decode prog_13_method_22_code 8 = .ok (.iconst 0, 1) := by decide +kernel
theorem d_R_opens_9 : decode prog_13_method_22_code 9 = .ok (.ireturn, 1) := by decide +kernel
theorem d_R_opens_10 : decode prog_13_method_22_code 10 = .ok (.aload_n 0, 1) := by decide +kernel
theorem d_R_opens_11 : decode prog_13_method_22_code 11 = .ok (.dup, 1) := by decide +kernel
theorem d_R_opens_12 : decode prog_13_method_22_code 12 = .ok (.getfield 94, 3) := by decide +kernel
theorem d_R_opens_15 : decode prog_13_method_22_code 15 = .ok (.iconst 1, 1) := by decide +kernel
theorem d_R_opens_16 : decode prog_13_method_22_code 16 = .ok (.iadd, 1) := by decide +kernel
theorem d_R_opens_17 : decode prog_13_method_22_code 17 = .ok (.putfield 94, 3) := by decide +kernel
theorem d_R_opens_20 : decode prog_13_method_22_code 20 = .ok (.aload_n 0, 1) := by decide +kernel
theorem d_R_opens_21 : decode prog_13_method_22_code 21 = .ok (.dup, 1) := by decide +kernel
theorem d_R_opens_22 : decode prog_13_method_22_code 22 = .ok (.getfield 61, 3) := by decide +kernel
theorem d_R_opens_25 : decode prog_13_method_22_code 25 = .ok (.iconst 1, 1) := by decide +kernel
theorem d_R_opens_26 : decode prog_13_method_22_code 26 = .ok (.iadd, 1) := by decide +kernel
theorem d_R_opens_27 : decode prog_13_method_22_code 27 = .ok (.putfield 61, 3) := by decide +kernel
theorem d_R_opens_30 : decode prog_13_method_22_code 30 = .ok (.iconst 1, 1) := by decide +kernel
theorem d_R_opens_31 : decode prog_13_method_22_code 31 = .ok (.ireturn, 1) := by decide +kernel
theorem d_R_one_0 : decode prog_13_method_23_code 0 = .ok (.aload_n 0, 1) := by decide +kernel
theorem d_R_one_1 : decode prog_13_method_23_code 1 = .ok (.invokevirtual 74, 3) := by decide +kernel
theorem d_R_one_4 : decode prog_13_method_23_code 4 = .ok (.istore_n 1, 1) := by decide +kernel
theorem d_R_one_5 : decode prog_13_method_23_code 5 = .ok (.aload_n 0, 1) := by decide +kernel
theorem d_R_one_6 : decode prog_13_method_23_code 6 = .ok (.iload_n 1, 1) := by decide +kernel
theorem d_R_one_7 : decode prog_13_method_23_code 7 = .ok (.invokevirtual 97, 3) := by decide +kernel
theorem d_R_one_10 : decode prog_13_method_23_code 10 = .ok (.ifCond .eq 21, 3) := by decide +kernel
theorem d_R_one_13 : decode prog_13_method_23_code 13 = .ok (.aload_n 0, 1) := by decide +kernel
theorem d_R_one_14 : decode prog_13_method_23_code 14 = .ok (.dup, 1) := by decide +kernel
theorem d_R_one_15 : decode prog_13_method_23_code 15 = .ok (.getfield 61, 3) := by decide +kernel
theorem d_R_one_18 : decode prog_13_method_23_code 18 = .ok (.iconst 1, 1) := by decide +kernel
theorem d_R_one_19 : decode prog_13_method_23_code 19 = .ok (.iadd, 1) := by decide +kernel
theorem d_R_one_20 : decode prog_13_method_23_code 20 = .ok (.putfield 61, 3) := by decide +kernel
theorem d_R_one_23 : decode prog_13_method_23_code 23 = .ok (.aload_n 0, 1) := by decide +kernel
theorem d_R_one_24 : decode prog_13_method_23_code 24 = .ok (.iconst 1, 1) := by decide +kernel
theorem d_R_one_25 : decode prog_13_method_23_code 25 = .ok (.iload_n 1, 1) := by decide +kernel
theorem d_R_one_26 : decode prog_13_method_23_code 26 = .ok (.invokevirtual 78, 3) := by decide +kernel
theorem d_R_one_29 : decode prog_13_method_23_code 29 = .ok (.iconst 1, 1) := by decide +kernel
theorem d_R_one_30 : decode prog_13_method_23_code 30 = .ok (.ireturn, 1) := by decide +kernel
theorem d_R_one_31 : decode prog_13_method_23_code 31 = .ok (.iload_n 1, 1) := by decide +kernel
theorem d_R_one_32 : decode prog_13_method_23_code 32 = .ok (.bipush 48, 2) := by decide +kernel
theorem d_R_one_34 : decode prog_13_method_23_code 34 = .ok (.bipush 57, 2) := by decide +kernel
theorem d_R_one_36 : decode prog_13_method_23_code 36 = .ok (.invokestatic 51, 3) := by decide +kernel
theorem d_R_one_39 : decode prog_13_method_23_code 39 = .ok (.ifCond .eq 63, 3) := by decide +kernel
theorem d_R_one_42 : decode prog_13_method_23_code 42 = .ok (.iconst 0, 1) := by decide +kernel
theorem d_R_one_43 : decode prog_13_method_23_code 43 = .ok (.istore_n 2, 1) := by decide +kernel
theorem d_R_one_44 : decode prog_13_method_23_code 44 = .ok (.iconst 0, 1) := by decide +kernel
theorem d_R_one_45 : decode prog_13_method_23_code 45 = .ok (.istore_n 3, 1) := by decide +kernel
theorem d_R_one_46 : decode prog_13_method_23_code 46 = .ok (.iload_n 3, 1) := by decide +kernel
theorem d_R_one_47 : decode prog_13_method_23_code 47 = .ok (.iconst 4, 1) := by decide +kernel
theorem d_R_one_48 : decode prog_13_method_23_code 48 = .ok (.if_icmp .ge 46, 3) := by decide +kernel
theorem d_R_one_51 : decode prog_13_method_23_code 51 = .ok (.aload_n 0, 1) := by decide +kernel
theorem d_R_one_52 : decode prog_13_method_23_code 52 = .ok (.invokevirtual 74, 3) := by decide +kernel
theorem d_R_one_55 : decode prog_13_method_23_code 55 = .ok (.bipush 48, 2) := by decide +kernel
theorem d_R_one_57 : decode prog_13_method_23_code 57 = .ok (.bipush 57, 2) := by decide +kernel
theorem d_R_one_59 : decode prog_13_method_23_code 59 = .ok (.invokestatic 51, 3) := by decide +kernel
theorem d_R_one_62 : decode prog_13_method_23_code 62 = .ok (.ifCond .eq 32, 3) := by decide +kernel
theorem d_R_one_65 : decode prog_13_method_23_code 65 = .ok (.bipush 10, 2) := by decide +kernel
theorem d_R_one_67 : decode prog_13_method_23_code 67 = .ok (.iload_n 2, 1) := by decide +kernel
theorem d_R_one_68 : decode prog_13_method_23_code 68 = .ok (.imul, 1) := by decide +kernel
theorem d_R_one_69 : decode prog_13_method_23_code 69 = .ok (.aload_n 0, 1) := by decide +kernel
theorem d_R_one_70 : decode prog_13_method_23_code 70 = .ok (.invokevirtual 74, 3) := by decide +kernel
theorem d_R_one_73 : decode prog_13_method_23_code 73 = .ok (.iadd, 1) := by decide +kernel
theorem d_R_one_74 : decode prog_13_method_23_code 74 = .ok (.bipush 48, 2) := by decide +kernel
theorem d_R_one_76 : decode prog_13_method_23_code 76 = .ok (.isub, 1) := by decide +kernel
theorem d_R_one_77 : decode prog_13_method_23_code 77 = .ok (.istore_n 2, 1) := by decide +kernel
theorem d_R_one_78 : decode prog_13_method_23_code 78 = .ok (.aload_n 0, 1) := by decide +kernel
theorem d_R_one_79 : decode prog_13_method_23_code 79 = .ok (.dup, 1) := by decide +kernel
theorem d_R_one_80 : decode prog_13_method_23_code 80 = .ok (.getfield 61, 3) := by decide +kernel
theorem d_R_one_83 : decode prog_13_method_23_code 83 = .ok (.iconst 1, 1) := by decide +kernel
theorem d_R_one_84 : decode prog_13_method_23_code 84 = .ok (.iadd, 1) := by decide +kernel
theorem d_R_one_85 : decode prog_13_method_23_code 85 = .ok (.putfield 61, 3) := by decide +kernel
theorem d_R_one_88 : decode prog_13_method_23_code 88 = .ok (.iinc 3 1, 3) := by decide +kernel
theorem d_R_one_91 : decode prog_13_method_23_code 91 = .ok (.goto (-45), 3) := by decide +kernel
theorem d_R_one_94 : decode prog_13_method_23_code 94 = .ok (.aload_n 0, 1) := by decide +kernel
theorem d_R_one_95 : decode prog_13_method_23_code 95 = .ok (.iconst 0, 1) := by decide +kernel
theorem d_R_one_96 : decode prog_13_method_23_code 96 = .ok (.iload_n 2, 1) := by decide +kernel
theorem d_R_one_97 : decode prog_13_method_23_code 97 = .ok (.invokevirtual 78, 3) := by decide +kernel
theorem d_R_one_100 : decode prog_13_method_23_code 100 = .ok (.iconst 1, 1) := by decide +kernel
theorem d_R_one_101 : decode prog_13_method_23_code 101 = .ok (.ireturn, 1) := by decide +kernel
theorem d_R_one_102 : decode prog_13_method_23_code 102 = .ok (.iload_n 1, 1) := by decide +kernel
theorem d_R_one_103 : decode prog_13_method_23_code 103 = .ok (.bipush 33, 2) := by decide +kernel
theorem d_R_one_105 : decode prog_13_method_23_code 105 = .ok (.if_icmp .ne 37, 3) := by decide +kernel
theorem d_R_one_108 : decode prog_13_method_23_code 108 = .ok (.aload_n 0, 1) := by decide +kernel
theorem d_R_one_109 : decode prog_13_method_23_code 109 = .ok (.invokevirtual 101, 3) := by decide +kernel
theorem d_R_one_112 : decode prog_13_method_23_code 112 = .ok (.ifCond .eq 10, 3) := by decide +kernel
theorem d_R_one_115 : decode prog_13_method_23_code 115 = .ok (.aload_n 0, 1) := by decide +kernel
theorem d_R_one_116 : decode prog_13_method_23_code 116 = .ok (.invokevirtual 91, 3) := by decide +kernel
theorem d_R_one_119 : decode prog_13_method_23_code 119 = .ok (.ifCond .ne 5, 3) := by decide +kernel
theorem d_R_one_122 : decode prog_13_method_23_code 122 = .ok (.iconst 0, 1) := by decide +kernel
theorem d_R_one_123 : decode prog_13_method_23_code 123 = .ok (.ireturn, 1) := by decide +kernel
theorem d_R_one_124 : decode prog_13_method_23_code 124 = .ok (.aload_n 0, 1) := by decide +kernel
theorem d_R_one_125 : decode prog_13_method_23_code 125 = .ok (.dup, 1) := by decide +kernel
theorem d_R_one_126 : decode prog_13_method_23_code 126 = .ok (.getfield 94, 3) := by decide +kernel
theorem d_R_one_129 : decode prog_13_method_23_code 129 = .ok (.iconst 1, 1) := by decide +kernel
theorem d_R_one_130 : decode prog_13_method_23_code 130 = .ok (.isub, 1) := by decide +kernel
theorem d_R_one_131 : decode prog_13_method_23_code 131 = .ok (.putfield 94, 3) := by decide +kernel
theorem d_R_one_134 : decode prog_13_method_23_code 134 = .ok (.aload_n 0, 1) := by decide +kernel
theorem d_R_one_135 : decode prog_13_method_23_code 135 = .ok (.iconst 2, 1) := by decide +kernel
theorem d_R_one_136 : decode prog_13_method_23_code 136 = .ok (.iconst 0, 1) := by decide +kernel
theorem d_R_one_137 : decode prog_13_method_23_code 137 = .ok (.invokevirtual 78, 3) := by decide +kernel
theorem d_R_one_140 : decode prog_13_method_23_code 140 = .ok (.iconst 1, 1) := by decide +kernel
theorem d_R_one_141 : decode prog_13_method_23_code 141 = .ok (.ireturn, 1) := by decide +kernel
theorem d_R_one_142 : decode prog_13_method_23_code 142 = .ok (.iload_n 1, 1) := by decide +kernel
theorem d_R_one_143 : decode prog_13_method_23_code 143 = .ok (.bipush 40, 2) := by decide +kernel
theorem d_R_one_145 : decode prog_13_method_23_code 145 = .ok (.if_icmp .ne 26, 3) := by decide +kernel
theorem d_R_one_148 : decode prog_13_method_23_code 148 = .ok (.aload_n 0, 1) := by decide +kernel
theorem d_R_one_149 : decode prog_13_method_23_code 149 = .ok (.invokevirtual 101, 3) := by decide +kernel
theorem d_R_one_152 : decode prog_13_method_23_code 152 = .ok (.ifCond .eq 19, 3) := by decide +kernel
theorem d_R_one_155 : decode prog_13_method_23_code 155 = .ok (.aload_n 0, 1) := by decide +kernel
theorem d_R_one_156 : decode prog_13_method_23_code 156 = .ok (.invokevirtual 104, 3) := by decide +kernel
theorem d_R_one_159 : decode prog_13_method_23_code 159 = .ok (.ifCond .eq 12, 3) := by decide +kernel
theorem d_R_one_162 : decode prog_13_method_23_code 162 = .ok (.aload_n 0, 1) := by decide +kernel
theorem d_R_one_163 : decode prog_13_method_23_code 163 = .ok (.invokevirtual 74, 3) := by decide +kernel
theorem d_R_one_166 : decode prog_13_method_23_code 166 = .ok (.bipush 41, 2) := by decide +kernel
theorem d_R_one_168 : decode prog_13_method_23_code 168 = .ok (.if_icmp .eq 5, 3) := by decide +kernel
theorem d_R_one_171 : decode prog_13_method_23_code 171 = .ok (.iconst 0, 1) := by decide +kernel
theorem d_R_one_172 : decode prog_13_method_23_code 172 = .ok (.ireturn, 1) := by decide +kernel
theorem d_R_one_173 : decode prog_13_method_23_code 173 = .ok (.aload_n 0, 1) := by decide +kernel
theorem d_R_one_174 : decode prog_13_method_23_code 174 = .ok (.dup, 1) := by decide +kernel
theorem d_R_one_175 : decode prog_13_method_23_code 175 = .ok (.getfield 61, 3) := by decide +kernel
theorem d_R_one_178 : decode prog_13_method_23_code 178 = .ok (.iconst 1, 1) := by decide +kernel
theorem d_R_one_179 : decode prog_13_method_23_code 179 = .ok (.iadd, 1) := by decide +kernel
theorem d_R_one_180 : decode prog_13_method_23_code 180 = .ok (.putfield 61, 3) := by decide +kernel
theorem d_R_one_183 : decode prog_13_method_23_code 183 = .ok (.aload_n 0, 1) := by decide +kernel
theorem d_R_one_184 : decode prog_13_method_23_code 184 = .ok (.dup, 1) := by decide +kernel
theorem d_R_one_185 : decode prog_13_method_23_code 185 = .ok (.getfield 94, 3) := by decide +kernel
theorem d_R_one_188 : decode prog_13_method_23_code 188 = .ok (.iconst 1, 1) := by decide +kernel
theorem d_R_one_189 : decode prog_13_method_23_code 189 = .ok (.isub, 1) := by decide +kernel
theorem d_R_one_190 : decode prog_13_method_23_code 190 = .ok (.putfield 94, 3) := by decide +kernel
theorem d_R_one_193 : decode prog_13_method_23_code 193 = .ok (.iconst 1, 1) := by decide +kernel
theorem d_R_one_194 : decode prog_13_method_23_code 194 = .ok (.ireturn, 1) := by decide +kernel
theorem d_R_hasText_0 : decode prog_13_method_24_code 0 = .ok (.aload_n 0, 1) := by decide +kernel
theorem d_R_hasText_1 : decode prog_13_method_24_code 1 = .ok (.getfield 7, 3) := by decide +kernel
theorem d_R_hasText_4 : decode prog_13_method_24_code 4 = .ok (.bipush 24, 2) := by decide +kernel
theorem d_R_hasText_6 : decode prog_13_method_24_code 6 = .ok (.bipush 125, 2) := by decide +kernel
theorem d_R_hasText_8 : decode prog_13_method_24_code 8 = .ok (.iload_n 1, 1) := by decide +kernel
theorem d_R_hasText_9 : decode prog_13_method_24_code 9 = .ok (.imul, 1) := by decide +kernel
theorem d_R_hasText_10 : decode prog_13_method_24_code 10 = .ok (.iadd, 1) := by decide +kernel
theorem d_R_hasText_11 : decode prog_13_method_24_code 11 = .ok (.iaload, 1) := by decide +kernel
theorem d_R_hasText_12 : decode prog_13_method_24_code 12 = .ok (.ifCond .le 7, 3) := by decide +kernel
theorem d_R_hasText_15 : decode prog_13_method_24_code 15 = .ok (.iconst 1, 1) := by decide +kernel
theorem d_R_hasText_16 : decode prog_13_method_24_code 16 = .ok (.goto 4, 3) := by decide +kernel
theorem d_R_hasText_19 : decode prog_13_method_24_code 19 = .ok (.iconst 0, 1) := by decide +kernel
theorem d_R_hasText_20 : decode prog_13_method_24_code 20 = .ok (.ireturn, 1) := by decide +kernel
theorem d_R_text_0 : decode prog_13_method_25_code 0 = .ok (.iload_n 1, 1) := by decide +kernel
theorem d_R_text_1 : decode prog_13_method_25_code 1 = .ok (.iconst 0, 1) := by decide +kernel
theorem d_R_text_2 : decode prog_13_method_25_code 2 = .ok (.iconst 1, 1) := by decide +kernel
theorem d_R_text_3 : decode prog_13_method_25_code 3 = .ok (.invokestatic 51, 3) := by decide +kernel
theorem d_R_text_6 : decode prog_13_method_25_code 6 = .ok (.ifCond .ne 9, 3) := by decide +kernel
theorem d_R_text_9 : decode prog_13_method_25_code 9 = .ok (.aload_n 0, 1) := by decide +kernel
theorem d_R_text_10 : decode prog_13_method_25_code 10 = .ok (.iconst 1, 1) := by decide +kernel
theorem d_R_text_11 : decode prog_13_method_25_code 11 = .ok (.invokevirtual 55, 3) := by decide +kernel
theorem d_R_text_14 : decode prog_13_method_25_code 14 = .ok (.ireturn, 1) := by decide +kernel
theorem d_R_text_15 : decode prog_13_method_25_code 15 = .ok (.aload_n 0, 1) := by decide +kernel
theorem d_R_text_16 : decode prog_13_method_25_code 16 = .ok (.iload_n 1, 1) := by decide +kernel
theorem d_R_text_17 : decode prog_13_method_25_code 17 = .ok (.putfield 64, 3) := by decide +kernel
theorem d_R_text_20 : decode prog_13_method_25_code 20 = .ok (.aload_n 0, 1) := by decide +kernel
theorem d_R_text_21 : decode prog_13_method_25_code 21 = .ok (.iconst 0, 1) := by decide +kernel
theorem d_R_text_22 : decode prog_13_method_25_code 22 = .ok (.putfield 61, 3) := by decide +kernel
theorem d_R_text_25 : decode prog_13_method_25_code 25 = .ok (.aload_n 0, 1) := by decide +kernel
theorem d_R_text_26 : decode prog_13_method_25_code 26 = .ok (.iconst 0, 1) := by decide +kernel
theorem d_R_text_27 : decode prog_13_method_25_code 27 = .ok (.putfield 94, 3) := by decide +kernel
theorem d_R_text_30 : decode prog_13_method_25_code 30 = .ok (.aload_n 0, 1) := by decide +kernel
theorem d_R_text_31 : decode prog_13_method_25_code 31 = .ok (.iconst 0, 1) := by decide +kernel
theorem d_R_text_32 : decode prog_13_method_25_code 32 = .ok (.putfield 67, 3) := by decide +kernel
theorem d_R_text_35 : decode prog_13_method_25_code 35 = .ok (.aload_n 0, 1) := by decide +kernel
theorem d_R_text_36 : decode prog_13_method_25_code 36 = .ok (.invokevirtual 104, 3) := by decide +kernel
theorem d_R_text_39 : decode prog_13_method_25_code 39 = .ok (.ifCond .eq 21, 3) := by decide +kernel
theorem d_R_text_42 : decode prog_13_method_25_code 42 = .ok (.aload_n 0, 1) := by decide +kernel
theorem d_R_text_43 : decode prog_13_method_25_code 43 = .ok (.getfield 61, 3) := by decide +kernel
theorem d_R_text_46 : decode prog_13_method_25_code 46 = .ok (.aload_n 0, 1) := by decide +kernel
theorem d_R_text_47 : decode prog_13_method_25_code 47 = .ok (.getfield 7, 3) := by decide +kernel
theorem d_R_text_50 : decode prog_13_method_25_code 50 = .ok (.bipush 9, 2) := by decide +kernel
theorem d_R_text_52 : decode prog_13_method_25_code 52 = .ok (.iaload, 1) := by decide +kernel
theorem d_R_text_53 : decode prog_13_method_25_code 53 = .ok (.if_icmp .ne 7, 3) := by decide +kernel
theorem d_R_text_56 : decode prog_13_method_25_code 56 = .ok (.iconst 1, 1) := by decide +kernel
theorem d_R_text_57 : decode prog_13_method_25_code 57 = .ok (.goto 4, 3) := by decide +kernel
theorem d_R_text_60 : decode prog_13_method_25_code 60 = .ok (.iconst 0, 1) := by decide +kernel
theorem d_R_text_61 : decode prog_13_method_25_code 61 = .ok (.istore_n 2, 1) := by decide +kernel
theorem d_R_text_62 : decode prog_13_method_25_code 62 = .ok (.aload_n 0, 1) := by decide +kernel
theorem d_R_text_63 : decode prog_13_method_25_code 63 = .ok (.getfield 7, 3) := by decide +kernel
theorem d_R_text_66 : decode prog_13_method_25_code 66 = .ok (.bipush 9, 2) := by decide +kernel
theorem d_R_text_68 : decode prog_13_method_25_code 68 = .ok (.iconst 0, 1) := by decide +kernel
theorem d_R_text_69 : decode prog_13_method_25_code 69 = .ok (.iastore, 1) := by decide +kernel
theorem d_R_text_70 : decode prog_13_method_25_code 70 = .ok (.iload_n 2, 1) := by decide +kernel
theorem d_R_text_71 : decode prog_13_method_25_code 71 = .ok (.ifCond .ne 11, 3) := by decide +kernel
theorem d_R_text_74 : decode prog_13_method_25_code 74 = .ok (.bipush (-10), 2) := by decide +kernel
theorem d_R_text_76 : decode prog_13_method_25_code 76 = .ok (.aload_n 0, 1) := by decide +kernel
theorem d_R_text_77 : decode prog_13_method_25_code 77 = .ok (.getfield 61, 3) := by decide +kernel
theorem d_R_text_80 : decode prog_13_method_25_code 80 = .ok (.isub, 1) := by decide +kernel
theorem d_R_text_81 : decode prog_13_method_25_code 81 = .ok (.ireturn, 1) := by decide +kernel
theorem d_R_text_82 : decode prog_13_method_25_code 82 = .ok (.bipush 24, 2) := by decide +kernel
theorem d_R_text_84 : decode prog_13_method_25_code 84 = .ok (.bipush 125, 2) := by decide +kernel
theorem d_R_text_86 : decode prog_13_method_25_code 86 = .ok (.iload_n 1, 1) := by decide +kernel
theorem d_R_text_87 : decode prog_13_method_25_code 87 = .ok (.imul, 1) := by decide +kernel
theorem d_R_text_88 : decode prog_13_method_25_code 88 = .ok (.iadd, 1) := by decide +kernel
theorem d_R_text_89 : decode prog_13_method_25_code 89 = .ok (.istore_n 3, 1) := by decide +kernel
theorem d_R_text_90 : decode prog_13_method_25_code 90 = .ok (.aload_n 0, 1) := by decide +kernel
theorem d_R_text_91 : decode prog_13_method_25_code 91 = .ok (.getfield 7, 3) := by decide +kernel
theorem d_R_text_94 : decode prog_13_method_25_code 94 = .ok (.iload_n 3, 1) := by decide +kernel
theorem d_R_text_95 : decode prog_13_method_25_code 95 = .ok (.aload_n 0, 1) := by decide +kernel
theorem d_R_text_96 : decode prog_13_method_25_code 96 = .ok (.getfield 67, 3) := by decide +kernel
theorem d_R_text_99 : decode prog_13_method_25_code 99 = .ok (.iastore, 1) := by decide +kernel
theorem d_R_text_100 : decode prog_13_method_25_code 100 = .ok (.iconst 0, 1) := by decide +kernel
theorem d_R_text_101 : decode prog_13_method_25_code 101 = .ok (.istore 4, 2) := by decide +kernel
theorem d_R_text_103 : decode prog_13_method_25_code 103 = .ok (.iload 4, 2) := by decide +kernel
theorem d_R_text_105 : decode prog_13_method_25_code 105 = .ok (.iconst 2, 1) := by decide +kernel
theorem d_R_text_106 : decode prog_13_method_25_code 106 = .ok (.aload_n 0, 1) := by decide +kernel
theorem d_R_text_107 : decode prog_13_method_25_code 107 = .ok (.getfield 67, 3) := by decide +kernel
theorem d_R_text_110 : decode prog_13_method_25_code 110 = .ok (.imul, 1) := by decide +kernel
theorem d_R_text_111 : decode prog_13_method_25_code 111 = .ok (.if_icmp .ge 27, 3) := by decide +kernel
theorem d_R_text_114 : decode prog_13_method_25_code 114 = .ok (.aload_n 0, 1) := by decide +kernel
theorem d_R_text_115 : decode prog_13_method_25_code 115 = .ok (.getfield 7, 3) := by decide +kernel
theorem d_R_text_118 : decode prog_13_method_25_code 118 = .ok (.iload_n 3, 1) := by decide +kernel
theorem d_R_text_119 : decode prog_13_method_25_code 119 = .ok (.iconst 1, 1) := by decide +kernel
theorem d_R_text_120 : decode prog_13_method_25_code 120 = .ok (.iadd, 1) := by decide +kernel
theorem d_R_text_121 : decode prog_13_method_25_code 121 = .ok (.iload 4, 2) := by decide +kernel
theorem d_R_text_123 : decode prog_13_method_25_code 123 = .ok (.iadd, 1) := by decide +kernel
theorem d_R_text_124 : decode prog_13_method_25_code 124 = .ok (.aload_n 0, 1) := by decide +kernel
theorem d_R_text_125 : decode prog_13_method_25_code 125 = .ok (.getfield 26, 3) := by decide +kernel
theorem d_R_text_128 : decode prog_13_method_25_code 128 = .ok (.iload 4, 2) := by decide +kernel
theorem d_R_text_130 : decode prog_13_method_25_code 130 = .ok (.iaload, 1) := by decide +kernel
theorem d_R_text_131 : decode prog_13_method_25_code 131 = .ok (.iastore, 1) := by decide +kernel
theorem d_R_text_132 : decode prog_13_method_25_code 132 = .ok (.iinc 4 1, 3) := by decide +kernel
theorem d_R_text_135 : decode prog_13_method_25_code 135 = .ok (.goto (-32), 3) := by decide +kernel
theorem d_R_text_138 : decode prog_13_method_25_code 138 = .ok (.iconst 1, 1) := by decide +kernel
theorem d_R_text_139 : decode prog_13_method_25_code 139 = .ok (.ireturn, 1) := by decide +kernel
theorem d_R_untell_0 : decode prog_13_method_26_code 0 = .ok (.iload_n 1, 1) := by decide +kernel
theorem d_R_untell_1 : decode prog_13_method_26_code 1 = .ok (.iconst 0, 1) := by decide +kernel
theorem d_R_untell_2 : decode prog_13_method_26_code 2 = .ok (.iconst 1, 1) := by decide +kernel
theorem d_R_untell_3 : decode prog_13_method_26_code 3 = .ok (.invokestatic 51, 3) := by decide +kernel
theorem d_R_untell_6 : decode prog_13_method_26_code 6 = .ok (.ifCond .ne 9, 3) := by decide +kernel
theorem d_R_untell_9 : decode prog_13_method_26_code 9 = .ok (.aload_n 0, 1) := by decide +kernel
theorem d_R_untell_10 : decode prog_13_method_26_code 10 = .ok (.iconst 1, 1) := by decide +kernel
theorem d_R_untell_11 : decode prog_13_method_26_code 11 = .ok (.invokevirtual 55, 3) := by decide +kernel
theorem d_R_untell_14 : decode prog_13_method_26_code 14 = .ok (.ireturn, 1) := by decide +kernel
theorem d_R_untell_15 : decode prog_13_method_26_code 15 = .ok (.aload_n 0, 1) := by decide +kernel
theorem d_R_untell_16 : decode prog_13_method_26_code 16 = .ok (.iload_n 1, 1) := by decide +kernel
theorem d_R_untell_17 : decode prog_13_method_26_code 17 = .ok (.invokevirtual 107, 3) := by decide +kernel
theorem d_R_untell_20 : decode prog_13_method_26_code 20 = .ok (.ifCond .eq 7, 3) := by decide +kernel
theorem d_R_untell_23 : decode prog_13_method_26_code 23 = .ok (.iconst 1, 1) := by decide +kernel
theorem d_R_untell_24 : decode prog_13_method_26_code 24 = .ok (.goto 4, 3) := by decide +kernel
theorem d_R_untell_27 : decode prog_13_method_26_code 27 = .ok (.iconst 0, 1) := by decide +kernel
theorem d_R_untell_28 : decode prog_13_method_26_code 28 = .ok (.istore_n 2, 1) := by decide +kernel
theorem d_R_untell_29 : decode prog_13_method_26_code 29 = .ok (.aload_n 0, 1) := by decide +kernel
theorem d_R_untell_30 : decode prog_13_method_26_code 30 = .ok (.getfield 7, 3) := by decide +kernel
theorem d_R_untell_33 : decode prog_13_method_26_code 33 = .ok (.bipush 24, 2) := by decide +kernel
theorem d_R_untell_35 : decode prog_13_method_26_code 35 = .ok (.bipush 125, 2) := by decide +kernel
theorem d_R_untell_37 : decode prog_13_method_26_code 37 = .ok (.iload_n 1, 1) := by decide +kernel
theorem d_R_untell_38 : decode prog_13_method_26_code 38 = .ok (.imul, 1) := by decide +kernel
theorem d_R_untell_39 : decode prog_13_method_26_code 39 = .ok (.iadd, 1) := by decide +kernel
theorem d_R_untell_40 : decode prog_13_method_26_code 40 = .ok (.iconst 0, 1) := by decide +kernel
theorem d_R_untell_41 : decode prog_13_method_26_code 41 = .ok (.iastore, 1) := by decide +kernel
theorem d_R_untell_42 : decode prog_13_method_26_code 42 = .ok (.iload_n 2, 1) := by decide +kernel
theorem d_R_untell_43 : decode prog_13_method_26_code 43 = .ok (.ireturn, 1) := by decide +kernel
theorem d_R_joined_0 : decode prog_13_method_27_code 0 = .ok (.iload_n 0, 1) := by decide +kernel
theorem d_R_joined_1 : decode prog_13_method_27_code 1 = .ok (.tableswitch 217 37 62 #[153, 203, 217, 217, 217, 127, 119, 217, 123, 217, 131, 217, 217, 217, 217, 217, 217, 217, 217, 217, 217, 217, 217, 170, 192, 181], 119) := by decide +kernel
theorem d_R_joined_120 : decode prog_13_method_27_code 120 = .ok (.iload_n 1, 1) := by decide +kernel
theorem d_R_joined_121 : decode prog_13_method_27_code 121 = .ok (.iload_n 2, 1) := by decide +kernel
theorem d_R_joined_122 : decode prog_13_method_27_code 122 = .ok (.iadd, 1) := by decide +kernel
theorem d_R_joined_123 : decode prog_13_method_27_code 123 = .ok (.ireturn, 1) := by decide +kernel
theorem d_R_joined_124 : decode prog_13_method_27_code 124 = .ok (.iload_n 1, 1) := by decide +kernel
theorem d_R_joined_125 : decode prog_13_method_27_code 125 = .ok (.iload_n 2, 1) := by decide +kernel
theorem d_R_joined_126 : decode prog_13_method_27_code 126 = .ok (.isub, 1) := by decide +kernel
theorem d_R_joined_127 : decode prog_13_method_27_code 127 = .ok (.ireturn, 1) := by decide +kernel
theorem d_R_joined_128 : decode prog_13_method_27_code 128 = .ok (.iload_n 1, 1) := by decide +kernel
theorem d_R_joined_129 : decode prog_13_method_27_code 129 = .ok (.iload_n 2, 1) := by decide +kernel
theorem d_R_joined_130 : decode prog_13_method_27_code 130 = .ok (.imul, 1) := by decide +kernel
theorem d_R_joined_131 : decode prog_13_method_27_code 131 = .ok (.ireturn, 1) := by decide +kernel
theorem d_R_joined_132 : decode prog_13_method_27_code 132 = .ok (.iload_n 2, 1) := by decide +kernel
theorem d_R_joined_133 : decode prog_13_method_27_code 133 = .ok (.ifCond .ne 7, 3) := by decide +kernel
theorem d_R_joined_136 : decode prog_13_method_27_code 136 = .ok (.iconst 0, 1) := by decide +kernel
theorem d_R_joined_137 : decode prog_13_method_27_code 137 = .ok (.goto 16, 3) := by decide +kernel
theorem d_R_joined_140 : decode prog_13_method_27_code 140 = .ok (.iload_n 2, 1) := by decide +kernel
theorem d_R_joined_141 : decode prog_13_method_27_code 141 = .ok (.iconst (-1), 1) := by decide +kernel
theorem d_R_joined_142 : decode prog_13_method_27_code 142 = .ok (.if_icmp .ne 8, 3) := by decide +kernel
theorem d_R_joined_145 : decode prog_13_method_27_code 145 = .ok (.iload_n 1, 1) := by decide +kernel
theorem d_R_joined_146 : decode prog_13_method_27_code 146 = .ok (.ineg, 1) := by decide +kernel
theorem d_R_joined_147 : decode prog_13_method_27_code 147 = .ok (.goto 6, 3) := by decide +kernel
theorem d_R_joined_150 : decode prog_13_method_27_code 150 = .ok (.iload_n 1, 1) := by decide +kernel
theorem d_R_joined_151 : decode prog_13_method_27_code 151 = .ok (.iload_n 2, 1) := by decide +kernel
theorem d_R_joined_152 : decode prog_13_method_27_code 152 = .ok (.idiv, 1) := by decide +kernel
theorem d_R_joined_153 : decode prog_13_method_27_code 153 = .ok (.ireturn, 1) := by decide +kernel
theorem d_R_joined_154 : decode prog_13_method_27_code 154 = .ok (.iload_n 2, 1) := by decide +kernel
theorem d_R_joined_155 : decode prog_13_method_27_code 155 = .ok (.ifCond .eq 8, 3) := by decide +kernel
theorem d_R_joined_158 : decode prog_13_method_27_code 158 = .ok (.iload_n 2, 1) := by decide +kernel
theorem d_R_joined_159 : decode prog_13_method_27_code 159 = .ok (.iconst (-1), 1) := by decide +kernel
theorem d_R_joined_160 : decode prog_13_method_27_code 160 = .ok (.if_icmp .ne 7, 3) := by decide +kernel
theorem d_R_joined_163 : decode prog_13_method_27_code 163 = .ok (.iconst 0, 1) := by decide +kernel
theorem d_R_joined_164 : decode prog_13_method_27_code 164 = .ok (.goto 6, 3) := by decide +kernel
theorem d_R_joined_167 : decode prog_13_method_27_code 167 = .ok (.iload_n 1, 1) := by decide +kernel
theorem d_R_joined_168 : decode prog_13_method_27_code 168 = .ok (.iload_n 2, 1) := by decide +kernel
theorem d_R_joined_169 : decode prog_13_method_27_code 169 = .ok (.irem, 1) := by decide +kernel
theorem d_R_joined_170 : decode prog_13_method_27_code 170 = .ok (.ireturn, 1) := by decide +kernel
theorem d_R_joined_171 : decode prog_13_method_27_code 171 = .ok (.iload_n 1, 1) := by decide +kernel
theorem d_R_joined_172 : decode prog_13_method_27_code 172 = .ok (.iload_n 2, 1) := by decide +kernel
theorem d_R_joined_173 : decode prog_13_method_27_code 173 = .ok (.if_icmp .ge 7, 3) := by decide +kernel
theorem d_R_joined_176 : decode prog_13_method_27_code 176 = .ok (.iconst 1, 1) := by decide +kernel
theorem d_R_joined_177 : decode prog_13_method_27_code 177 = .ok (.goto 4, 3) := by decide +kernel
theorem d_R_joined_180 : decode prog_13_method_27_code 180 = .ok (.iconst 0, 1) := by decide +kernel
theorem d_R_joined_181 : decode prog_13_method_27_code 181 = .ok (.ireturn, 1) := by decide +kernel
theorem d_R_joined_182 : decode prog_13_method_27_code 182 = .ok (.iload_n 1, 1) := by decide +kernel
theorem d_R_joined_183 : decode prog_13_method_27_code 183 = .ok (.iload_n 2, 1) := by decide +kernel
theorem d_R_joined_184 : decode prog_13_method_27_code 184 = .ok (.if_icmp .le 7, 3) := by decide +kernel
theorem d_R_joined_187 : decode prog_13_method_27_code 187 = .ok (.iconst 1, 1) := by decide +kernel
theorem d_R_joined_188 : decode prog_13_method_27_code 188 = .ok (.goto 4, 3) := by decide +kernel
theorem d_R_joined_191 : decode prog_13_method_27_code 191 = .ok (.iconst 0, 1) := by decide +kernel
theorem d_R_joined_192 : decode prog_13_method_27_code 192 = .ok (.ireturn, 1) := by decide +kernel
theorem d_R_joined_193 : decode prog_13_method_27_code 193 = .ok (.iload_n 1, 1) := by decide +kernel
theorem d_R_joined_194 : decode prog_13_method_27_code 194 = .ok (.iload_n 2, 1) := by decide +kernel
theorem d_R_joined_195 : decode prog_13_method_27_code 195 = .ok (.if_icmp .ne 7, 3) := by decide +kernel
theorem d_R_joined_198 : decode prog_13_method_27_code 198 = .ok (.iconst 1, 1) := by decide +kernel
theorem d_R_joined_199 : decode prog_13_method_27_code 199 = .ok (.goto 4, 3) := by decide +kernel
theorem d_R_joined_202 : decode prog_13_method_27_code 202 = .ok (.iconst 0, 1) := by decide +kernel
theorem d_R_joined_203 : decode prog_13_method_27_code 203 = .ok (.ireturn, 1) := by decide +kernel
theorem d_R_joined_204 : decode prog_13_method_27_code 204 = .ok (.iload_n 1, 1) := by decide +kernel
theorem d_R_joined_205 : decode prog_13_method_27_code 205 = .ok (.ifCond .eq 11, 3) := by decide +kernel
theorem d_R_joined_208 : decode prog_13_method_27_code 208 = .ok (.iload_n 2, 1) := by decide +kernel
theorem d_R_joined_209 : decode prog_13_method_27_code 209 = .ok (.ifCond .eq 7, 3) := by decide +kernel
theorem d_R_joined_212 : decode prog_13_method_27_code 212 = .ok (.iconst 1, 1) := by decide +kernel
theorem d_R_joined_213 : decode prog_13_method_27_code 213 = .ok (.goto 4, 3) := by decide +kernel
theorem d_R_joined_216 : decode prog_13_method_27_code 216 = .ok (.iconst 0, 1) := by decide +kernel
theorem d_R_joined_217 : decode prog_13_method_27_code 217 = .ok (.ireturn, 1) := by decide +kernel
theorem d_R_joined_218 : decode prog_13_method_27_code 218 = .ok (.iload_n 1, 1) := by decide +kernel
theorem d_R_joined_219 : decode prog_13_method_27_code 219 = .ok (.ifCond .ne 7, 3) := by decide +kernel
theorem d_R_joined_222 : decode prog_13_method_27_code 222 = .ok (.iload_n 2, 1) := by decide +kernel
theorem d_R_joined_223 : decode prog_13_method_27_code 223 = .ok (.ifCond .eq 7, 3) := by decide +kernel
theorem d_R_joined_226 : decode prog_13_method_27_code 226 = .ok (.iconst 1, 1) := by decide +kernel
theorem d_R_joined_227 : decode prog_13_method_27_code 227 = .ok (.goto 4, 3) := by decide +kernel
theorem d_R_joined_230 : decode prog_13_method_27_code 230 = .ok (.iconst 0, 1) := by decide +kernel
theorem d_R_joined_231 : decode prog_13_method_27_code 231 = .ok (.ireturn, 1) := by decide +kernel
theorem d_R_worked_0 : decode prog_13_method_28_code 0 = .ok (.bipush 24, 2) := by decide +kernel
theorem d_R_worked_2 : decode prog_13_method_28_code 2 = .ok (.bipush 125, 2) := by decide +kernel
theorem d_R_worked_4 : decode prog_13_method_28_code 4 = .ok (.iload_n 1, 1) := by decide +kernel
theorem d_R_worked_5 : decode prog_13_method_28_code 5 = .ok (.imul, 1) := by decide +kernel
theorem d_R_worked_6 : decode prog_13_method_28_code 6 = .ok (.iadd, 1) := by decide +kernel
theorem d_R_worked_7 : decode prog_13_method_28_code 7 = .ok (.istore_n 2, 1) := by decide +kernel
theorem d_R_worked_8 : decode prog_13_method_28_code 8 = .ok (.iconst 0, 1) := by decide +kernel
theorem d_R_worked_9 : decode prog_13_method_28_code 9 = .ok (.istore_n 3, 1) := by decide +kernel
theorem d_R_worked_10 : decode prog_13_method_28_code 10 = .ok (.iconst 0, 1) := by decide +kernel
theorem d_R_worked_11 : decode prog_13_method_28_code 11 = .ok (.istore 4, 2) := by decide +kernel
theorem d_R_worked_13 : decode prog_13_method_28_code 13 = .ok (.iload 4, 2) := by decide +kernel
theorem d_R_worked_15 : decode prog_13_method_28_code 15 = .ok (.aload_n 0, 1) := by decide +kernel
theorem d_R_worked_16 : decode prog_13_method_28_code 16 = .ok (.getfield 7, 3) := by decide +kernel
theorem d_R_worked_19 : decode prog_13_method_28_code 19 = .ok (.iload_n 2, 1) := by decide +kernel
theorem d_R_worked_20 : decode prog_13_method_28_code 20 = .ok (.iaload, 1) := by decide +kernel
theorem d_R_worked_21 : decode prog_13_method_28_code 21 = .ok (.if_icmp .ge 142, 3) := by decide +kernel
theorem d_R_worked_24 : decode prog_13_method_28_code 24 = .ok (.aload_n 0, 1) := by decide +kernel
theorem d_R_worked_25 : decode prog_13_method_28_code 25 = .ok (.getfield 7, 3) := by decide +kernel
theorem d_R_worked_28 : decode prog_13_method_28_code 28 = .ok (.iload_n 2, 1) := by decide +kernel
theorem d_R_worked_29 : decode prog_13_method_28_code 29 = .ok (.iconst 1, 1) := by decide +kernel
theorem d_R_worked_30 : decode prog_13_method_28_code 30 = .ok (.iadd, 1) := by decide +kernel
theorem d_R_worked_31 : decode prog_13_method_28_code 31 = .ok (.iconst 2, 1) := by decide +kernel
theorem d_R_worked_32 : decode prog_13_method_28_code 32 = .ok (.iload 4, 2) := by decide +kernel
theorem d_R_worked_34 : decode prog_13_method_28_code 34 = .ok (.imul, 1) := by decide +kernel
theorem d_R_worked_35 : decode prog_13_method_28_code 35 = .ok (.iadd, 1) := by decide +kernel
theorem d_R_worked_36 : decode prog_13_method_28_code 36 = .ok (.iaload, 1) := by decide +kernel
theorem d_R_worked_37 : decode prog_13_method_28_code 37 = .ok (.istore 5, 2) := by decide +kernel
theorem d_R_worked_39 : decode prog_13_method_28_code 39 = .ok (.aload_n 0, 1) := by decide +kernel
theorem d_R_worked_40 : decode prog_13_method_28_code 40 = .ok (.getfield 7, 3) := by decide +kernel
theorem d_R_worked_43 : decode prog_13_method_28_code 43 = .ok (.iload_n 2, 1) := by decide +kernel
theorem d_R_worked_44 : decode prog_13_method_28_code 44 = .ok (.iconst 2, 1) := by decide +kernel
theorem d_R_worked_45 : decode prog_13_method_28_code 45 = .ok (.iadd, 1) := by decide +kernel
theorem d_R_worked_46 : decode prog_13_method_28_code 46 = .ok (.iconst 2, 1) := by decide +kernel
theorem d_R_worked_47 : decode prog_13_method_28_code 47 = .ok (.iload 4, 2) := by decide +kernel
theorem d_R_worked_49 : decode prog_13_method_28_code 49 = .ok (.imul, 1) := by decide +kernel
theorem d_R_worked_50 : decode prog_13_method_28_code 50 = .ok (.iadd, 1) := by decide +kernel
theorem d_R_worked_51 : decode prog_13_method_28_code 51 = .ok (.iaload, 1) := by decide +kernel
theorem d_R_worked_52 : decode prog_13_method_28_code 52 = .ok (.istore 6, 2) := by decide +kernel
theorem d_R_worked_54 : decode prog_13_method_28_code 54 = .ok (.iload 5, 2) := by decide +kernel
theorem d_R_worked_56 : decode prog_13_method_28_code 56 = .ok (.ifCond .eq 9, 3) := by decide +kernel
theorem d_R_worked_59 : decode prog_13_method_28_code 59 = .ok (.iload 5, 2) := by decide +kernel
theorem d_R_worked_61 : decode prog_13_method_28_code 61 = .ok (.iconst 1, 1) := by decide +kernel
theorem d_R_worked_62 : decode prog_13_method_28_code 62 = .ok (.if_icmp .ne 32, 3) := by decide +kernel
theorem d_R_worked_65 : decode prog_13_method_28_code 65 = .ok (.aload_n 0, 1) := by decide +kernel
theorem d_R_worked_66 : decode prog_13_method_28_code 66 = .ok (.getfield 32, 3) := by decide +kernel
theorem d_R_worked_69 : decode prog_13_method_28_code 69 = .ok (.iload_n 3, 1) := by decide +kernel
theorem d_R_worked_70 : decode prog_13_method_28_code 70 = .ok (.iload 5, 2) := by decide +kernel
theorem d_R_worked_72 : decode prog_13_method_28_code 72 = .ok (.ifCond .ne 8, 3) := by decide +kernel
theorem d_R_worked_75 : decode prog_13_method_28_code 75 = .ok (.iload 6, 2) := by decide +kernel
theorem d_R_worked_77 : decode prog_13_method_28_code 77 = .ok (.goto 10, 3) := by decide +kernel
theorem d_R_worked_80 : decode prog_13_method_28_code 80 = .ok (.aload_n 0, 1) := by decide +kernel
theorem d_R_worked_81 : decode prog_13_method_28_code 81 = .ok (.getfield 29, 3) := by decide +kernel
theorem d_R_worked_84 : decode prog_13_method_28_code 84 = .ok (.iload 6, 2) := by decide +kernel
theorem d_R_worked_86 : decode prog_13_method_28_code 86 = .ok (.iaload, 1) := by decide +kernel
theorem d_R_worked_87 : decode prog_13_method_28_code 87 = .ok (.iastore, 1) := by decide +kernel
theorem d_R_worked_88 : decode prog_13_method_28_code 88 = .ok (.iinc 3 1, 3) := by decide +kernel
theorem d_R_worked_91 : decode prog_13_method_28_code 91 = .ok (.goto 66, 3) := by decide +kernel
theorem d_R_worked_94 : decode prog_13_method_28_code 94 = .ok (.iload 5, 2) := by decide +kernel
theorem d_R_worked_96 : decode prog_13_method_28_code 96 = .ok (.iconst 2, 1) := by decide +kernel
theorem d_R_worked_97 : decode prog_13_method_28_code 97 = .ok (.if_icmp .ne 30, 3) := by decide +kernel
theorem d_R_worked_100 : decode prog_13_method_28_code 100 = .ok (.aload_n 0, 1) := by decide +kernel
theorem d_R_worked_101 : decode prog_13_method_28_code 101 = .ok (.getfield 32, 3) := by decide +kernel
theorem d_R_worked_104 : decode prog_13_method_28_code 104 = .ok (.iload_n 3, 1) := by decide +kernel
theorem d_R_worked_105 : decode prog_13_method_28_code 105 = .ok (.iconst 1, 1) := by decide +kernel
theorem d_R_worked_106 : decode prog_13_method_28_code 106 = .ok (.isub, 1) := by decide +kernel
theorem d_R_worked_107 : decode prog_13_method_28_code 107 = .ok (.aload_n 0, 1) := by decide +kernel
theorem d_R_worked_108 : decode prog_13_method_28_code 108 = .ok (.getfield 32, 3) := by decide +kernel
theorem d_R_worked_111 : decode prog_13_method_28_code 111 = .ok (.iload_n 3, 1) := by decide +kernel
theorem d_R_worked_112 : decode prog_13_method_28_code 112 = .ok (.iconst 1, 1) := by decide +kernel
theorem d_R_worked_113 : decode prog_13_method_28_code 113 = .ok (.isub, 1) := by decide +kernel
theorem d_R_worked_114 : decode prog_13_method_28_code 114 = .ok (.iaload, 1) := by decide +kernel
theorem d_R_worked_115 : decode prog_13_method_28_code 115 = .ok (.ifCond .ne 7, 3) := by decide +kernel
theorem d_R_worked_118 : decode prog_13_method_28_code 118 = .ok (.iconst 1, 1) := by decide +kernel
theorem d_R_worked_119 : decode prog_13_method_28_code 119 = .ok (.goto 4, 3) := by decide +kernel
theorem d_R_worked_122 : decode prog_13_method_28_code 122 = .ok (.iconst 0, 1) := by decide +kernel
theorem d_R_worked_123 : decode prog_13_method_28_code 123 = .ok (.iastore, 1) := by decide +kernel
theorem d_R_worked_124 : decode prog_13_method_28_code 124 = .ok (.goto 33, 3) := by decide +kernel
theorem d_R_worked_127 : decode prog_13_method_28_code 127 = .ok (.iinc 3 (-1), 3) := by decide +kernel
theorem d_R_worked_130 : decode prog_13_method_28_code 130 = .ok (.aload_n 0, 1) := by decide +kernel
theorem d_R_worked_131 : decode prog_13_method_28_code 131 = .ok (.getfield 32, 3) := by decide +kernel
theorem d_R_worked_134 : decode prog_13_method_28_code 134 = .ok (.iload_n 3, 1) := by decide +kernel
theorem d_R_worked_135 : decode prog_13_method_28_code 135 = .ok (.iconst 1, 1) := by decide +kernel
theorem d_R_worked_136 : decode prog_13_method_28_code 136 = .ok (.isub, 1) := by decide +kernel
theorem d_R_worked_137 : decode prog_13_method_28_code 137 = .ok (.iload 6, 2) := by decide +kernel
theorem d_R_worked_139 : decode prog_13_method_28_code 139 = .ok (.aload_n 0, 1) := by decide +kernel
theorem d_R_worked_140 : decode prog_13_method_28_code 140 = .ok (.getfield 32, 3) := by decide +kernel
theorem d_R_worked_143 : decode prog_13_method_28_code 143 = .ok (.iload_n 3, 1) := by decide +kernel
theorem d_R_worked_144 : decode prog_13_method_28_code 144 = .ok (.iconst 1, 1) := by decide +kernel
theorem d_R_worked_145 : decode prog_13_method_28_code 145 = .ok (.isub, 1) := by decide +kernel
theorem d_R_worked_146 : decode prog_13_method_28_code 146 = .ok (.iaload, 1) := by decide +kernel
theorem d_R_worked_147 : decode prog_13_method_28_code 147 = .ok (.aload_n 0, 1) := by decide +kernel
theorem d_R_worked_148 : decode prog_13_method_28_code 148 = .ok (.getfield 32, 3) := by decide +kernel
theorem d_R_worked_151 : decode prog_13_method_28_code 151 = .ok (.iload_n 3, 1) := by decide +kernel
theorem d_R_worked_152 : decode prog_13_method_28_code 152 = .ok (.iaload, 1) := by decide +kernel
theorem d_R_worked_153 : decode prog_13_method_28_code 153 = .ok (.invokestatic 110, 3) := by decide +kernel
theorem d_R_worked_156 : decode prog_13_method_28_code 156 = .ok (.iastore, 1) := by decide +kernel
theorem d_R_worked_157 : decode prog_13_method_28_code 157 = .ok (.iinc 4 1, 3) := by decide +kernel
theorem d_R_worked_160 : decode prog_13_method_28_code 160 = .ok (.goto (-147), 3) := by decide +kernel
theorem d_R_worked_163 : decode prog_13_method_28_code 163 = .ok (.aload_n 0, 1) := by decide +kernel
theorem d_R_worked_164 : decode prog_13_method_28_code 164 = .ok (.getfield 32, 3) := by decide +kernel
theorem d_R_worked_167 : decode prog_13_method_28_code 167 = .ok (.iconst 0, 1) := by decide +kernel
theorem d_R_worked_168 : decode prog_13_method_28_code 168 = .ok (.iaload, 1) := by decide +kernel
theorem d_R_worked_169 : decode prog_13_method_28_code 169 = .ok (.ireturn, 1) := by decide +kernel
theorem d_R_pushOf_0 : decode prog_13_method_29_code 0 = .ok (.aload_n 0, 1) := by decide +kernel
theorem d_R_pushOf_1 : decode prog_13_method_29_code 1 = .ok (.iload_n 1, 1) := by decide +kernel
theorem d_R_pushOf_2 : decode prog_13_method_29_code 2 = .ok (.iconst 1, 1) := by decide +kernel
theorem d_R_pushOf_3 : decode prog_13_method_29_code 3 = .ok (.invokevirtual 114, 3) := by decide +kernel
theorem d_R_pushOf_6 : decode prog_13_method_29_code 6 = .ok (.istore_n 2, 1) := by decide +kernel
theorem d_R_pushOf_7 : decode prog_13_method_29_code 7 = .ok (.aload_n 0, 1) := by decide +kernel
theorem d_R_pushOf_8 : decode prog_13_method_29_code 8 = .ok (.getfield 7, 3) := by decide +kernel
theorem d_R_pushOf_11 : decode prog_13_method_29_code 11 = .ok (.iconst 3, 1) := by decide +kernel
theorem d_R_pushOf_12 : decode prog_13_method_29_code 12 = .ok (.iaload, 1) := by decide +kernel
theorem d_R_pushOf_13 : decode prog_13_method_29_code 13 = .ok (.ifCond .ne 7, 3) := by decide +kernel
theorem d_R_pushOf_16 : decode prog_13_method_29_code 16 = .ok (.iconst 1, 1) := by decide +kernel
theorem d_R_pushOf_17 : decode prog_13_method_29_code 17 = .ok (.goto 4, 3) := by decide +kernel
theorem d_R_pushOf_20 : decode prog_13_method_29_code 20 = .ok (.iconst 0, 1) := by decide +kernel
theorem d_R_pushOf_21 : decode prog_13_method_29_code 21 = .ok (.istore_n 3, 1) := by decide +kernel
theorem d_R_pushOf_22 : decode prog_13_method_29_code 22 = .ok (.iload_n 3, 1) := by decide +kernel
theorem d_R_pushOf_23 : decode prog_13_method_29_code 23 = .ok (.ifCond .eq 19, 3) := by decide +kernel
theorem d_R_pushOf_26 : decode prog_13_method_29_code 26 = .ok (.aload_n 0, 1) := by decide +kernel
theorem d_R_pushOf_27 : decode prog_13_method_29_code 27 = .ok (.getfield 7, 3) := by decide +kernel
theorem d_R_pushOf_30 : decode prog_13_method_29_code 30 = .ok (.bipush 7, 2) := by decide +kernel
theorem d_R_pushOf_32 : decode prog_13_method_29_code 32 = .ok (.iaload, 1) := by decide +kernel
theorem d_R_pushOf_33 : decode prog_13_method_29_code 33 = .ok (.iconst 2, 1) := by decide +kernel
theorem d_R_pushOf_34 : decode prog_13_method_29_code 34 = .ok (.irem, 1) := by decide +kernel
theorem d_R_pushOf_35 : decode prog_13_method_29_code 35 = .ok (.ifCond .ne 7, 3) := by decide +kernel
theorem d_R_pushOf_38 : decode prog_13_method_29_code 38 = .ok (.iload_n 2, 1) := by decide +kernel
theorem d_R_pushOf_39 : decode prog_13_method_29_code 39 = .ok (.goto 4, 3) := by decide +kernel
theorem d_R_pushOf_42 : decode prog_13_method_29_code 42 = .ok (.iconst 0, 1) := by decide +kernel
theorem d_R_pushOf_43 : decode prog_13_method_29_code 43 = .ok (.istore 4, 2) := by decide +kernel
theorem d_R_pushOf_45 : decode prog_13_method_29_code 45 = .ok (.iload 4, 2) := by decide +kernel
theorem d_R_pushOf_47 : decode prog_13_method_29_code 47 = .ok (.aload_n 0, 1) := by decide +kernel
theorem d_R_pushOf_48 : decode prog_13_method_29_code 48 = .ok (.getfield 7, 3) := by decide +kernel
theorem d_R_pushOf_51 : decode prog_13_method_29_code 51 = .ok (.bipush 7, 2) := by decide +kernel
theorem d_R_pushOf_53 : decode prog_13_method_29_code 53 = .ok (.iaload, 1) := by decide +kernel
theorem d_R_pushOf_54 : decode prog_13_method_29_code 54 = .ok (.bipush 8, 2) := by decide +kernel
theorem d_R_pushOf_56 : decode prog_13_method_29_code 56 = .ok (.idiv, 1) := by decide +kernel
theorem d_R_pushOf_57 : decode prog_13_method_29_code 57 = .ok (.isub, 1) := by decide +kernel
theorem d_R_pushOf_58 : decode prog_13_method_29_code 58 = .ok (.istore 5, 2) := by decide +kernel
theorem d_R_pushOf_60 : decode prog_13_method_29_code 60 = .ok (.aload_n 0, 1) := by decide +kernel
theorem d_R_pushOf_61 : decode prog_13_method_29_code 61 = .ok (.iload_n 1, 1) := by decide +kernel
theorem d_R_pushOf_62 : decode prog_13_method_29_code 62 = .ok (.iconst 0, 1) := by decide +kernel
theorem d_R_pushOf_63 : decode prog_13_method_29_code 63 = .ok (.invokevirtual 114, 3) := by decide +kernel
theorem d_R_pushOf_66 : decode prog_13_method_29_code 66 = .ok (.tableswitch 99 1 6 #[38, 50, 53, 63, 85, 97], 38) := by decide +kernel
theorem d_R_pushOf_104 : decode prog_13_method_29_code 104 = .ok (.iload_n 3, 1) := by decide +kernel
theorem d_R_pushOf_105 : decode prog_13_method_29_code 105 = .ok (.ifCond .eq 9, 3) := by decide +kernel
theorem d_R_pushOf_108 : decode prog_13_method_29_code 108 = .ok (.iload_n 2, 1) := by decide +kernel
theorem d_R_pushOf_109 : decode prog_13_method_29_code 109 = .ok (.iconst 2, 1) := by decide +kernel
theorem d_R_pushOf_110 : decode prog_13_method_29_code 110 = .ok (.iadd, 1) := by decide +kernel
theorem d_R_pushOf_111 : decode prog_13_method_29_code 111 = .ok (.goto 4, 3) := by decide +kernel
theorem d_R_pushOf_114 : decode prog_13_method_29_code 114 = .ok (.iconst 0, 1) := by decide +kernel
theorem d_R_pushOf_115 : decode prog_13_method_29_code 115 = .ok (.ireturn, 1) := by decide +kernel
theorem d_R_pushOf_116 : decode prog_13_method_29_code 116 = .ok (.iload 4, 2) := by decide +kernel
theorem d_R_pushOf_118 : decode prog_13_method_29_code 118 = .ok (.ireturn, 1) := by decide +kernel
theorem d_R_pushOf_119 : decode prog_13_method_29_code 119 = .ok (.iload_n 3, 1) := by decide +kernel
theorem d_R_pushOf_120 : decode prog_13_method_29_code 120 = .ok (.ifCond .eq 7, 3) := by decide +kernel
theorem d_R_pushOf_123 : decode prog_13_method_29_code 123 = .ok (.iconst 0, 1) := by decide +kernel
theorem d_R_pushOf_124 : decode prog_13_method_29_code 124 = .ok (.goto 4, 3) := by decide +kernel
theorem d_R_pushOf_127 : decode prog_13_method_29_code 127 = .ok (.iload_n 2, 1) := by decide +kernel
theorem d_R_pushOf_128 : decode prog_13_method_29_code 128 = .ok (.ireturn, 1) := by decide +kernel
theorem d_R_pushOf_129 : decode prog_13_method_29_code 129 = .ok (.iload_n 3, 1) := by decide +kernel
theorem d_R_pushOf_130 : decode prog_13_method_29_code 130 = .ok (.ifCond .eq 9, 3) := by decide +kernel
theorem d_R_pushOf_133 : decode prog_13_method_29_code 133 = .ok (.iload_n 2, 1) := by decide +kernel
theorem d_R_pushOf_134 : decode prog_13_method_29_code 134 = .ok (.iconst 2, 1) := by decide +kernel
theorem d_R_pushOf_135 : decode prog_13_method_29_code 135 = .ok (.iadd, 1) := by decide +kernel
theorem d_R_pushOf_136 : decode prog_13_method_29_code 136 = .ok (.goto 4, 3) := by decide +kernel
theorem d_R_pushOf_139 : decode prog_13_method_29_code 139 = .ok (.iconst 0, 1) := by decide +kernel
theorem d_R_pushOf_140 : decode prog_13_method_29_code 140 = .ok (.aload_n 0, 1) := by decide +kernel
theorem d_R_pushOf_141 : decode prog_13_method_29_code 141 = .ok (.getfield 7, 3) := by decide +kernel
theorem d_R_pushOf_144 : decode prog_13_method_29_code 144 = .ok (.iconst 2, 1) := by decide +kernel
theorem d_R_pushOf_145 : decode prog_13_method_29_code 145 = .ok (.iaload, 1) := by decide +kernel
theorem d_R_pushOf_146 : decode prog_13_method_29_code 146 = .ok (.bipush 8, 2) := by decide +kernel
theorem d_R_pushOf_148 : decode prog_13_method_29_code 148 = .ok (.idiv, 1) := by decide +kernel
theorem d_R_pushOf_149 : decode prog_13_method_29_code 149 = .ok (.iadd, 1) := by decide +kernel
theorem d_R_pushOf_150 : decode prog_13_method_29_code 150 = .ok (.ireturn, 1) := by decide +kernel
theorem d_R_pushOf_151 : decode prog_13_method_29_code 151 = .ok (.iload 5, 2) := by decide +kernel
theorem d_R_pushOf_153 : decode prog_13_method_29_code 153 = .ok (.ifCond .ge 7, 3) := by decide +kernel
theorem d_R_pushOf_156 : decode prog_13_method_29_code 156 = .ok (.iconst 0, 1) := by decide +kernel
theorem d_R_pushOf_157 : decode prog_13_method_29_code 157 = .ok (.goto 5, 3) := by decide +kernel
theorem d_R_pushOf_160 : decode prog_13_method_29_code 160 = .ok (.iload 5, 2) := by decide +kernel
theorem d_R_pushOf_162 : decode prog_13_method_29_code 162 = .ok (.ireturn, 1) := by decide +kernel
theorem d_R_pushOf_163 : decode prog_13_method_29_code 163 = .ok (.iconst 0, 1) := by decide +kernel
theorem d_R_pushOf_164 : decode prog_13_method_29_code 164 = .ok (.ireturn, 1) := by decide +kernel
theorem d_R_pushOf_165 : decode prog_13_method_29_code 165 = .ok (.iload_n 3, 1) := by decide +kernel
theorem d_R_pushOf_166 : decode prog_13_method_29_code 166 = .ok (.ifCond .eq 7, 3) := by decide +kernel
theorem d_R_pushOf_169 : decode prog_13_method_29_code 169 = .ok (.iload_n 2, 1) := by decide +kernel
theorem d_R_pushOf_170 : decode prog_13_method_29_code 170 = .ok (.goto 4, 3) := by decide +kernel
theorem d_R_pushOf_173 : decode prog_13_method_29_code 173 = .ok (.iconst 0, 1) := by decide +kernel
theorem d_R_pushOf_174 : decode prog_13_method_29_code 174 = .ok (.ireturn, 1) := by decide +kernel
theorem d_R_weightOf_0 : decode prog_13_method_30_code 0 = .ok (.aload_n 0, 1) := by decide +kernel
theorem d_R_weightOf_1 : decode prog_13_method_30_code 1 = .ok (.iload_n 1, 1) := by decide +kernel
theorem d_R_weightOf_2 : decode prog_13_method_30_code 2 = .ok (.iconst 0, 1) := by decide +kernel
theorem d_R_weightOf_3 : decode prog_13_method_30_code 3 = .ok (.invokevirtual 114, 3) := by decide +kernel
theorem d_R_weightOf_6 : decode prog_13_method_30_code 6 = .ok (.bipush 6, 2) := by decide +kernel
theorem d_R_weightOf_8 : decode prog_13_method_30_code 8 = .ok (.if_icmp .ne 12, 3) := by decide +kernel
theorem d_R_weightOf_11 : decode prog_13_method_30_code 11 = .ok (.aload_n 0, 1) := by decide +kernel
theorem d_R_weightOf_12 : decode prog_13_method_30_code 12 = .ok (.iload_n 1, 1) := by decide +kernel
theorem d_R_weightOf_13 : decode prog_13_method_30_code 13 = .ok (.iconst 1, 1) := by decide +kernel
theorem d_R_weightOf_14 : decode prog_13_method_30_code 14 = .ok (.invokevirtual 114, 3) := by decide +kernel
theorem d_R_weightOf_17 : decode prog_13_method_30_code 17 = .ok (.goto 4, 3) := by decide +kernel
theorem d_R_weightOf_20 : decode prog_13_method_30_code 20 = .ok (.iconst 0, 1) := by decide +kernel
theorem d_R_weightOf_21 : decode prog_13_method_30_code 21 = .ok (.ireturn, 1) := by decide +kernel
theorem d_R_pushes_0 : decode prog_13_method_31_code 0 = .ok (.iconst 0, 1) := by decide +kernel
theorem d_R_pushes_1 : decode prog_13_method_31_code 1 = .ok (.istore_n 1, 1) := by decide +kernel
theorem d_R_pushes_2 : decode prog_13_method_31_code 2 = .ok (.iconst 0, 1) := by decide +kernel
theorem d_R_pushes_3 : decode prog_13_method_31_code 3 = .ok (.istore_n 2, 1) := by decide +kernel
theorem d_R_pushes_4 : decode prog_13_method_31_code 4 = .ok (.iload_n 2, 1) := by decide +kernel
theorem d_R_pushes_5 : decode prog_13_method_31_code 5 = .ok (.aload_n 0, 1) := by decide +kernel
theorem d_R_pushes_6 : decode prog_13_method_31_code 6 = .ok (.getfield 7, 3) := by decide +kernel
theorem d_R_pushes_9 : decode prog_13_method_31_code 9 = .ok (.bipush 11, 2) := by decide +kernel
theorem d_R_pushes_11 : decode prog_13_method_31_code 11 = .ok (.iaload, 1) := by decide +kernel
theorem d_R_pushes_12 : decode prog_13_method_31_code 12 = .ok (.if_icmp .ge 33, 3) := by decide +kernel
theorem d_R_pushes_15 : decode prog_13_method_31_code 15 = .ok (.iload_n 1, 1) := by decide +kernel
theorem d_R_pushes_16 : decode prog_13_method_31_code 16 = .ok (.aload_n 0, 1) := by decide +kernel
theorem d_R_pushes_17 : decode prog_13_method_31_code 17 = .ok (.getfield 22, 3) := by decide +kernel
theorem d_R_pushes_20 : decode prog_13_method_31_code 20 = .ok (.iload_n 2, 1) := by decide +kernel
theorem d_R_pushes_21 : decode prog_13_method_31_code 21 = .ok (.ishr, 1) := by decide +kernel
theorem d_R_pushes_22 : decode prog_13_method_31_code 22 = .ok (.iconst 1, 1) := by decide +kernel
theorem d_R_pushes_23 : decode prog_13_method_31_code 23 = .ok (.iand, 1) := by decide +kernel
theorem d_R_pushes_24 : decode prog_13_method_31_code 24 = .ok (.iconst 1, 1) := by decide +kernel
theorem d_R_pushes_25 : decode prog_13_method_31_code 25 = .ok (.if_icmp .ne 11, 3) := by decide +kernel
theorem d_R_pushes_28 : decode prog_13_method_31_code 28 = .ok (.aload_n 0, 1) := by decide +kernel
theorem d_R_pushes_29 : decode prog_13_method_31_code 29 = .ok (.iload_n 2, 1) := by decide +kernel
theorem d_R_pushes_30 : decode prog_13_method_31_code 30 = .ok (.invokevirtual 118, 3) := by decide +kernel
theorem d_R_pushes_33 : decode prog_13_method_31_code 33 = .ok (.goto 4, 3) := by decide +kernel
theorem d_R_pushes_36 : decode prog_13_method_31_code 36 = .ok (.iconst 0, 1) := by decide +kernel
theorem d_R_pushes_37 : decode prog_13_method_31_code 37 = .ok (.iadd, 1) := by decide +kernel
theorem d_R_pushes_38 : decode prog_13_method_31_code 38 = .ok (.istore_n 1, 1) := by decide +kernel
theorem d_R_pushes_39 : decode prog_13_method_31_code 39 = .ok (.iinc 2 1, 3) := by decide +kernel
theorem d_R_pushes_42 : decode prog_13_method_31_code 42 = .ok (.goto (-38), 3) := by decide +kernel
theorem d_R_pushes_45 : decode prog_13_method_31_code 45 = .ok (.iload_n 1, 1) := by decide +kernel
theorem d_R_pushes_46 : decode prog_13_method_31_code 46 = .ok (.ireturn, 1) := by decide +kernel
theorem d_R_weighs_0 : decode prog_13_method_32_code 0 = .ok (.iconst 0, 1) := by decide +kernel
theorem d_R_weighs_1 : decode prog_13_method_32_code 1 = .ok (.istore_n 1, 1) := by decide +kernel
theorem d_R_weighs_2 : decode prog_13_method_32_code 2 = .ok (.iconst 0, 1) := by decide +kernel
theorem d_R_weighs_3 : decode prog_13_method_32_code 3 = .ok (.istore_n 2, 1) := by decide +kernel
theorem d_R_weighs_4 : decode prog_13_method_32_code 4 = .ok (.iload_n 2, 1) := by decide +kernel
theorem d_R_weighs_5 : decode prog_13_method_32_code 5 = .ok (.aload_n 0, 1) := by decide +kernel
theorem d_R_weighs_6 : decode prog_13_method_32_code 6 = .ok (.getfield 7, 3) := by decide +kernel
theorem d_R_weighs_9 : decode prog_13_method_32_code 9 = .ok (.bipush 11, 2) := by decide +kernel
theorem d_R_weighs_11 : decode prog_13_method_32_code 11 = .ok (.iaload, 1) := by decide +kernel
theorem d_R_weighs_12 : decode prog_13_method_32_code 12 = .ok (.if_icmp .ge 33, 3) := by decide +kernel
theorem d_R_weighs_15 : decode prog_13_method_32_code 15 = .ok (.iload_n 1, 1) := by decide +kernel
theorem d_R_weighs_16 : decode prog_13_method_32_code 16 = .ok (.aload_n 0, 1) := by decide +kernel
theorem d_R_weighs_17 : decode prog_13_method_32_code 17 = .ok (.getfield 22, 3) := by decide +kernel
theorem d_R_weighs_20 : decode prog_13_method_32_code 20 = .ok (.iload_n 2, 1) := by decide +kernel
theorem d_R_weighs_21 : decode prog_13_method_32_code 21 = .ok (.ishr, 1) := by decide +kernel
theorem d_R_weighs_22 : decode prog_13_method_32_code 22 = .ok (.iconst 1, 1) := by decide +kernel
theorem d_R_weighs_23 : decode prog_13_method_32_code 23 = .ok (.iand, 1) := by decide +kernel
theorem d_R_weighs_24 : decode prog_13_method_32_code 24 = .ok (.iconst 1, 1) := by decide +kernel
theorem d_R_weighs_25 : decode prog_13_method_32_code 25 = .ok (.if_icmp .ne 11, 3) := by decide +kernel
theorem d_R_weighs_28 : decode prog_13_method_32_code 28 = .ok (.aload_n 0, 1) := by decide +kernel
theorem d_R_weighs_29 : decode prog_13_method_32_code 29 = .ok (.iload_n 2, 1) := by decide +kernel
theorem d_R_weighs_30 : decode prog_13_method_32_code 30 = .ok (.invokevirtual 121, 3) := by decide +kernel
theorem d_R_weighs_33 : decode prog_13_method_32_code 33 = .ok (.goto 4, 3) := by decide +kernel
theorem d_R_weighs_36 : decode prog_13_method_32_code 36 = .ok (.iconst 0, 1) := by decide +kernel
theorem d_R_weighs_37 : decode prog_13_method_32_code 37 = .ok (.iadd, 1) := by decide +kernel
theorem d_R_weighs_38 : decode prog_13_method_32_code 38 = .ok (.istore_n 1, 1) := by decide +kernel
theorem d_R_weighs_39 : decode prog_13_method_32_code 39 = .ok (.iinc 2 1, 3) := by decide +kernel
theorem d_R_weighs_42 : decode prog_13_method_32_code 42 = .ok (.goto (-38), 3) := by decide +kernel
theorem d_R_weighs_45 : decode prog_13_method_32_code 45 = .ok (.iload_n 1, 1) := by decide +kernel
theorem d_R_weighs_46 : decode prog_13_method_32_code 46 = .ok (.ireturn, 1) := by decide +kernel
theorem d_R_gripTold_0 : decode prog_13_method_33_code 0 = .ok (.aload_n 0, 1) := by decide +kernel
theorem d_R_gripTold_1 : decode prog_13_method_33_code 1 = .ok (.getfield 29, 3) := by decide +kernel
theorem d_R_gripTold_4 : decode prog_13_method_33_code 4 = .ok (.bipush 105, 2) := by decide +kernel
theorem d_R_gripTold_6 : decode prog_13_method_33_code 6 = .ok (.iload_n 1, 1) := by decide +kernel
theorem d_R_gripTold_7 : decode prog_13_method_33_code 7 = .ok (.iastore, 1) := by decide +kernel
theorem d_R_gripTold_8 : decode prog_13_method_33_code 8 = .ok (.aload_n 0, 1) := by decide +kernel
theorem d_R_gripTold_9 : decode prog_13_method_33_code 9 = .ok (.getfield 29, 3) := by decide +kernel
theorem d_R_gripTold_12 : decode prog_13_method_33_code 12 = .ok (.bipush 100, 2) := by decide +kernel
theorem d_R_gripTold_14 : decode prog_13_method_33_code 14 = .ok (.iload_n 2, 1) := by decide +kernel
theorem d_R_gripTold_15 : decode prog_13_method_33_code 15 = .ok (.iastore, 1) := by decide +kernel
theorem d_R_gripTold_16 : decode prog_13_method_33_code 16 = .ok (.aload_n 0, 1) := by decide +kernel
theorem d_R_gripTold_17 : decode prog_13_method_33_code 17 = .ok (.getfield 29, 3) := by decide +kernel
theorem d_R_gripTold_20 : decode prog_13_method_33_code 20 = .ok (.bipush 119, 2) := by decide +kernel
theorem d_R_gripTold_22 : decode prog_13_method_33_code 22 = .ok (.iload_n 3, 1) := by decide +kernel
theorem d_R_gripTold_23 : decode prog_13_method_33_code 23 = .ok (.iastore, 1) := by decide +kernel
theorem d_R_gripTold_24 : decode prog_13_method_33_code 24 = .ok (.aload_n 0, 1) := by decide +kernel
theorem d_R_gripTold_25 : decode prog_13_method_33_code 25 = .ok (.iconst 0, 1) := by decide +kernel
theorem d_R_gripTold_26 : decode prog_13_method_33_code 26 = .ok (.invokevirtual 107, 3) := by decide +kernel
theorem d_R_gripTold_29 : decode prog_13_method_33_code 29 = .ok (.ifCond .eq 11, 3) := by decide +kernel
theorem d_R_gripTold_32 : decode prog_13_method_33_code 32 = .ok (.aload_n 0, 1) := by decide +kernel
theorem d_R_gripTold_33 : decode prog_13_method_33_code 33 = .ok (.iconst 0, 1) := by decide +kernel
theorem d_R_gripTold_34 : decode prog_13_method_33_code 34 = .ok (.invokevirtual 124, 3) := by decide +kernel
theorem d_R_gripTold_37 : decode prog_13_method_33_code 37 = .ok (.goto 12, 3) := by decide +kernel
theorem d_R_gripTold_40 : decode prog_13_method_33_code 40 = .ok (.bipush 9, 2) := by decide +kernel
theorem d_R_gripTold_42 : decode prog_13_method_33_code 42 = .ok (.iload_n 3, 1) := by decide +kernel
theorem d_R_gripTold_43 : decode prog_13_method_33_code 43 = .ok (.iadd, 1) := by decide +kernel
theorem d_R_gripTold_44 : decode prog_13_method_33_code 44 = .ok (.iload_n 1, 1) := by decide +kernel
theorem d_R_gripTold_45 : decode prog_13_method_33_code 45 = .ok (.bipush 10, 2) := by decide +kernel
theorem d_R_gripTold_47 : decode prog_13_method_33_code 47 = .ok (.idiv, 1) := by decide +kernel
theorem d_R_gripTold_48 : decode prog_13_method_33_code 48 = .ok (.isub, 1) := by decide +kernel
theorem d_R_gripTold_49 : decode prog_13_method_33_code 49 = .ok (.iconst 0, 1) := by decide +kernel
theorem d_R_gripTold_50 : decode prog_13_method_33_code 50 = .ok (.bipush 99, 2) := by decide +kernel
theorem d_R_gripTold_52 : decode prog_13_method_33_code 52 = .ok (.invokestatic 127, 3) := by decide +kernel
theorem d_R_gripTold_55 : decode prog_13_method_33_code 55 = .ok (.ireturn, 1) := by decide +kernel
theorem d_R_rubTold_0 : decode prog_13_method_34_code 0 = .ok (.aload_n 0, 1) := by decide +kernel
theorem d_R_rubTold_1 : decode prog_13_method_34_code 1 = .ok (.getfield 29, 3) := by decide +kernel
theorem d_R_rubTold_4 : decode prog_13_method_34_code 4 = .ok (.bipush 104, 2) := by decide +kernel
theorem d_R_rubTold_6 : decode prog_13_method_34_code 6 = .ok (.iload_n 1, 1) := by decide +kernel
theorem d_R_rubTold_7 : decode prog_13_method_34_code 7 = .ok (.iastore, 1) := by decide +kernel
theorem d_R_rubTold_8 : decode prog_13_method_34_code 8 = .ok (.aload_n 0, 1) := by decide +kernel
theorem d_R_rubTold_9 : decode prog_13_method_34_code 9 = .ok (.getfield 29, 3) := by decide +kernel
theorem d_R_rubTold_12 : decode prog_13_method_34_code 12 = .ok (.bipush 100, 2) := by decide +kernel
theorem d_R_rubTold_14 : decode prog_13_method_34_code 14 = .ok (.iload_n 2, 1) := by decide +kernel
theorem d_R_rubTold_15 : decode prog_13_method_34_code 15 = .ok (.iastore, 1) := by decide +kernel
theorem d_R_rubTold_16 : decode prog_13_method_34_code 16 = .ok (.aload_n 0, 1) := by decide +kernel
theorem d_R_rubTold_17 : decode prog_13_method_34_code 17 = .ok (.getfield 29, 3) := by decide +kernel
theorem d_R_rubTold_20 : decode prog_13_method_34_code 20 = .ok (.bipush 110, 2) := by decide +kernel
theorem d_R_rubTold_22 : decode prog_13_method_34_code 22 = .ok (.iload_n 3, 1) := by decide +kernel
theorem d_R_rubTold_23 : decode prog_13_method_34_code 23 = .ok (.iastore, 1) := by decide +kernel
theorem d_R_rubTold_24 : decode prog_13_method_34_code 24 = .ok (.aload_n 0, 1) := by decide +kernel
theorem d_R_rubTold_25 : decode prog_13_method_34_code 25 = .ok (.iconst 1, 1) := by decide +kernel
theorem d_R_rubTold_26 : decode prog_13_method_34_code 26 = .ok (.invokevirtual 107, 3) := by decide +kernel
theorem d_R_rubTold_29 : decode prog_13_method_34_code 29 = .ok (.ifCond .eq 11, 3) := by decide +kernel
theorem d_R_rubTold_32 : decode prog_13_method_34_code 32 = .ok (.aload_n 0, 1) := by decide +kernel
theorem d_R_rubTold_33 : decode prog_13_method_34_code 33 = .ok (.iconst 1, 1) := by decide +kernel
theorem d_R_rubTold_34 : decode prog_13_method_34_code 34 = .ok (.invokevirtual 124, 3) := by decide +kernel
theorem d_R_rubTold_37 : decode prog_13_method_34_code 37 = .ok (.goto 9, 3) := by decide +kernel
theorem d_R_rubTold_40 : decode prog_13_method_34_code 40 = .ok (.iconst 2, 1) := by decide +kernel
theorem d_R_rubTold_41 : decode prog_13_method_34_code 41 = .ok (.iload_n 2, 1) := by decide +kernel
theorem d_R_rubTold_42 : decode prog_13_method_34_code 42 = .ok (.bipush 10, 2) := by decide +kernel
theorem d_R_rubTold_44 : decode prog_13_method_34_code 44 = .ok (.idiv, 1) := by decide +kernel
theorem d_R_rubTold_45 : decode prog_13_method_34_code 45 = .ok (.iadd, 1) := by decide +kernel
theorem d_R_rubTold_46 : decode prog_13_method_34_code 46 = .ok (.iconst 0, 1) := by decide +kernel
theorem d_R_rubTold_47 : decode prog_13_method_34_code 47 = .ok (.bipush 99, 2) := by decide +kernel
theorem d_R_rubTold_49 : decode prog_13_method_34_code 49 = .ok (.invokestatic 127, 3) := by decide +kernel
theorem d_R_rubTold_52 : decode prog_13_method_34_code 52 = .ok (.ireturn, 1) := by decide +kernel
theorem d_R_grip_0 : decode prog_13_method_35_code 0 = .ok (.aload_n 0, 1) := by decide +kernel
theorem d_R_grip_1 : decode prog_13_method_35_code 1 = .ok (.aload_n 0, 1) := by decide +kernel
theorem d_R_grip_2 : decode prog_13_method_35_code 2 = .ok (.getfield 7, 3) := by decide +kernel
theorem d_R_grip_5 : decode prog_13_method_35_code 5 = .ok (.iconst 1, 1) := by decide +kernel
theorem d_R_grip_6 : decode prog_13_method_35_code 6 = .ok (.iaload, 1) := by decide +kernel
theorem d_R_grip_7 : decode prog_13_method_35_code 7 = .ok (.aload_n 0, 1) := by decide +kernel
theorem d_R_grip_8 : decode prog_13_method_35_code 8 = .ok (.getfield 7, 3) := by decide +kernel
theorem d_R_grip_11 : decode prog_13_method_35_code 11 = .ok (.iconst 0, 1) := by decide +kernel
theorem d_R_grip_12 : decode prog_13_method_35_code 12 = .ok (.iaload, 1) := by decide +kernel
theorem d_R_grip_13 : decode prog_13_method_35_code 13 = .ok (.aload_n 0, 1) := by decide +kernel
theorem d_R_grip_14 : decode prog_13_method_35_code 14 = .ok (.invokevirtual 130, 3) := by decide +kernel
theorem d_R_grip_17 : decode prog_13_method_35_code 17 = .ok (.invokevirtual 133, 3) := by decide +kernel
theorem d_R_grip_20 : decode prog_13_method_35_code 20 = .ok (.aload_n 0, 1) := by decide +kernel
theorem d_R_grip_21 : decode prog_13_method_35_code 21 = .ok (.getfield 7, 3) := by decide +kernel
theorem d_R_grip_24 : decode prog_13_method_35_code 24 = .ok (.iconst 4, 1) := by decide +kernel
theorem d_R_grip_25 : decode prog_13_method_35_code 25 = .ok (.iaload, 1) := by decide +kernel
theorem d_R_grip_26 : decode prog_13_method_35_code 26 = .ok (.ifCond .ne 7, 3) := by decide +kernel
theorem d_R_grip_29 : decode prog_13_method_35_code 29 = .ok (.iconst 0, 1) := by decide +kernel
theorem d_R_grip_30 : decode prog_13_method_35_code 30 = .ok (.goto 4, 3) := by decide +kernel
theorem d_R_grip_33 : decode prog_13_method_35_code 33 = .ok (.iconst 3, 1) := by decide +kernel
theorem d_R_grip_34 : decode prog_13_method_35_code 34 = .ok (.iadd, 1) := by decide +kernel
theorem d_R_grip_35 : decode prog_13_method_35_code 35 = .ok (.ireturn, 1) := by decide +kernel
theorem d_R_rub_0 : decode prog_13_method_36_code 0 = .ok (.aload_n 0, 1) := by decide +kernel
theorem d_R_rub_1 : decode prog_13_method_36_code 1 = .ok (.aload_n 0, 1) := by decide +kernel
theorem d_R_rub_2 : decode prog_13_method_36_code 2 = .ok (.getfield 7, 3) := by decide +kernel
theorem d_R_rub_5 : decode prog_13_method_36_code 5 = .ok (.iconst 2, 1) := by decide +kernel
theorem d_R_rub_6 : decode prog_13_method_36_code 6 = .ok (.iaload, 1) := by decide +kernel
theorem d_R_rub_7 : decode prog_13_method_36_code 7 = .ok (.aload_n 0, 1) := by decide +kernel
theorem d_R_rub_8 : decode prog_13_method_36_code 8 = .ok (.getfield 7, 3) := by decide +kernel
theorem d_R_rub_11 : decode prog_13_method_36_code 11 = .ok (.iconst 0, 1) := by decide +kernel
theorem d_R_rub_12 : decode prog_13_method_36_code 12 = .ok (.iaload, 1) := by decide +kernel
theorem d_R_rub_13 : decode prog_13_method_36_code 13 = .ok (.aload_n 0, 1) := by decide +kernel
theorem d_R_rub_14 : decode prog_13_method_36_code 14 = .ok (.getfield 7, 3) := by decide +kernel
theorem d_R_rub_17 : decode prog_13_method_36_code 17 = .ok (.bipush 7, 2) := by decide +kernel
theorem d_R_rub_19 : decode prog_13_method_36_code 19 = .ok (.iaload, 1) := by decide +kernel
theorem d_R_rub_20 : decode prog_13_method_36_code 20 = .ok (.invokevirtual 136, 3) := by decide +kernel
theorem d_R_rub_23 : decode prog_13_method_36_code 23 = .ok (.ireturn, 1) := by decide +kernel
theorem d_R_goes_0 : decode prog_13_method_37_code 0 = .ok (.aload_n 0, 1) := by decide +kernel
theorem d_R_goes_1 : decode prog_13_method_37_code 1 = .ok (.invokevirtual 139, 3) := by decide +kernel
theorem d_R_goes_4 : decode prog_13_method_37_code 4 = .ok (.istore_n 2, 1) := by decide +kernel
theorem d_R_goes_5 : decode prog_13_method_37_code 5 = .ok (.aload_n 0, 1) := by decide +kernel
theorem d_R_goes_6 : decode prog_13_method_37_code 6 = .ok (.invokevirtual 142, 3) := by decide +kernel
theorem d_R_goes_9 : decode prog_13_method_37_code 9 = .ok (.aload_n 0, 1) := by decide +kernel
theorem d_R_goes_10 : decode prog_13_method_37_code 10 = .ok (.invokevirtual 145, 3) := by decide +kernel
theorem d_R_goes_13 : decode prog_13_method_37_code 13 = .ok (.isub, 1) := by decide +kernel
theorem d_R_goes_14 : decode prog_13_method_37_code 14 = .ok (.istore_n 3, 1) := by decide +kernel
theorem d_R_goes_15 : decode prog_13_method_37_code 15 = .ok (.iload_n 1, 1) := by decide +kernel
theorem d_R_goes_16 : decode prog_13_method_37_code 16 = .ok (.iload_n 2, 1) := by decide +kernel
theorem d_R_goes_17 : decode prog_13_method_37_code 17 = .ok (.if_icmp .le 7, 3) := by decide +kernel
theorem d_R_goes_20 : decode prog_13_method_37_code 20 = .ok (.iconst 1, 1) := by decide +kernel
theorem d_R_goes_21 : decode prog_13_method_37_code 21 = .ok (.goto 4, 3) := by decide +kernel
theorem d_R_goes_24 : decode prog_13_method_37_code 24 = .ok (.iconst 0, 1) := by decide +kernel
theorem d_R_goes_25 : decode prog_13_method_37_code 25 = .ok (.istore 4, 2) := by decide +kernel
theorem d_R_goes_27 : decode prog_13_method_37_code 27 = .ok (.iload 4, 2) := by decide +kernel
theorem d_R_goes_29 : decode prog_13_method_37_code 29 = .ok (.ifCond .eq 65, 3) := by decide +kernel
theorem d_R_goes_32 : decode prog_13_method_37_code 32 = .ok (.aload_n 0, 1) := by decide +kernel
theorem d_R_goes_33 : decode prog_13_method_37_code 33 = .ok (.getfield 7, 3) := by decide +kernel
theorem d_R_goes_36 : decode prog_13_method_37_code 36 = .ok (.iconst 1, 1) := by decide +kernel
theorem d_R_goes_37 : decode prog_13_method_37_code 37 = .ok (.aload_n 0, 1) := by decide +kernel
theorem d_R_goes_38 : decode prog_13_method_37_code 38 = .ok (.getfield 7, 3) := by decide +kernel
theorem d_R_goes_41 : decode prog_13_method_37_code 41 = .ok (.iconst 1, 1) := by decide +kernel
theorem d_R_goes_42 : decode prog_13_method_37_code 42 = .ok (.iaload, 1) := by decide +kernel
theorem d_R_goes_43 : decode prog_13_method_37_code 43 = .ok (.iload_n 1, 1) := by decide +kernel
theorem d_R_goes_44 : decode prog_13_method_37_code 44 = .ok (.iadd, 1) := by decide +kernel
theorem d_R_goes_45 : decode prog_13_method_37_code 45 = .ok (.iload_n 2, 1) := by decide +kernel
theorem d_R_goes_46 : decode prog_13_method_37_code 46 = .ok (.isub, 1) := by decide +kernel
theorem d_R_goes_47 : decode prog_13_method_37_code 47 = .ok (.iconst 0, 1) := by decide +kernel
theorem d_R_goes_48 : decode prog_13_method_37_code 48 = .ok (.bipush 99, 2) := by decide +kernel
theorem d_R_goes_50 : decode prog_13_method_37_code 50 = .ok (.invokestatic 127, 3) := by decide +kernel
theorem d_R_goes_53 : decode prog_13_method_37_code 53 = .ok (.iastore, 1) := by decide +kernel
theorem d_R_goes_54 : decode prog_13_method_37_code 54 = .ok (.aload_n 0, 1) := by decide +kernel
theorem d_R_goes_55 : decode prog_13_method_37_code 55 = .ok (.getfield 7, 3) := by decide +kernel
theorem d_R_goes_58 : decode prog_13_method_37_code 58 = .ok (.iconst 0, 1) := by decide +kernel
theorem d_R_goes_59 : decode prog_13_method_37_code 59 = .ok (.aload_n 0, 1) := by decide +kernel
theorem d_R_goes_60 : decode prog_13_method_37_code 60 = .ok (.getfield 7, 3) := by decide +kernel
theorem d_R_goes_63 : decode prog_13_method_37_code 63 = .ok (.iconst 0, 1) := by decide +kernel
theorem d_R_goes_64 : decode prog_13_method_37_code 64 = .ok (.iaload, 1) := by decide +kernel
theorem d_R_goes_65 : decode prog_13_method_37_code 65 = .ok (.iconst 1, 1) := by decide +kernel
theorem d_R_goes_66 : decode prog_13_method_37_code 66 = .ok (.iadd, 1) := by decide +kernel
theorem d_R_goes_67 : decode prog_13_method_37_code 67 = .ok (.iconst 1, 1) := by decide +kernel
theorem d_R_goes_68 : decode prog_13_method_37_code 68 = .ok (.bipush 60, 2) := by decide +kernel
theorem d_R_goes_70 : decode prog_13_method_37_code 70 = .ok (.invokestatic 127, 3) := by decide +kernel
theorem d_R_goes_73 : decode prog_13_method_37_code 73 = .ok (.iastore, 1) := by decide +kernel
theorem d_R_goes_74 : decode prog_13_method_37_code 74 = .ok (.aload_n 0, 1) := by decide +kernel
theorem d_R_goes_75 : decode prog_13_method_37_code 75 = .ok (.getfield 7, 3) := by decide +kernel
theorem d_R_goes_78 : decode prog_13_method_37_code 78 = .ok (.iconst 4, 1) := by decide +kernel
theorem d_R_goes_79 : decode prog_13_method_37_code 79 = .ok (.aload_n 0, 1) := by decide +kernel
theorem d_R_goes_80 : decode prog_13_method_37_code 80 = .ok (.getfield 7, 3) := by decide +kernel
theorem d_R_goes_83 : decode prog_13_method_37_code 83 = .ok (.iconst 4, 1) := by decide +kernel
theorem d_R_goes_84 : decode prog_13_method_37_code 84 = .ok (.iaload, 1) := by decide +kernel
theorem d_R_goes_85 : decode prog_13_method_37_code 85 = .ok (.iconst 1, 1) := by decide +kernel
theorem d_R_goes_86 : decode prog_13_method_37_code 86 = .ok (.isub, 1) := by decide +kernel
theorem d_R_goes_87 : decode prog_13_method_37_code 87 = .ok (.iconst 0, 1) := by decide +kernel
theorem d_R_goes_88 : decode prog_13_method_37_code 88 = .ok (.bipush 99, 2) := by decide +kernel
theorem d_R_goes_90 : decode prog_13_method_37_code 90 = .ok (.invokestatic 127, 3) := by decide +kernel
theorem d_R_goes_93 : decode prog_13_method_37_code 93 = .ok (.iastore, 1) := by decide +kernel
theorem d_R_goes_94 : decode prog_13_method_37_code 94 = .ok (.aload_n 0, 1) := by decide +kernel
theorem d_R_goes_95 : decode prog_13_method_37_code 95 = .ok (.getfield 7, 3) := by decide +kernel
theorem d_R_goes_98 : decode prog_13_method_37_code 98 = .ok (.iconst 2, 1) := by decide +kernel
theorem d_R_goes_99 : decode prog_13_method_37_code 99 = .ok (.aload_n 0, 1) := by decide +kernel
theorem d_R_goes_100 : decode prog_13_method_37_code 100 = .ok (.getfield 7, 3) := by decide +kernel
theorem d_R_goes_103 : decode prog_13_method_37_code 103 = .ok (.iconst 2, 1) := by decide +kernel
theorem d_R_goes_104 : decode prog_13_method_37_code 104 = .ok (.iaload, 1) := by decide +kernel
theorem d_R_goes_105 : decode prog_13_method_37_code 105 = .ok (.iload_n 3, 1) := by decide +kernel
theorem d_R_goes_106 : decode prog_13_method_37_code 106 = .ok (.iadd, 1) := by decide +kernel
theorem d_R_goes_107 : decode prog_13_method_37_code 107 = .ok (.iload 4, 2) := by decide +kernel
theorem d_R_goes_109 : decode prog_13_method_37_code 109 = .ok (.ifCond .eq 7, 3) := by decide +kernel
theorem d_R_goes_112 : decode prog_13_method_37_code 112 = .ok (.iconst 0, 1) := by decide +kernel
theorem d_R_goes_113 : decode prog_13_method_37_code 113 = .ok (.goto 4, 3) := by decide +kernel
theorem d_R_goes_116 : decode prog_13_method_37_code 116 = .ok (.iload_n 1, 1) := by decide +kernel
theorem d_R_goes_117 : decode prog_13_method_37_code 117 = .ok (.iadd, 1) := by decide +kernel
theorem d_R_goes_118 : decode prog_13_method_37_code 118 = .ok (.iconst 0, 1) := by decide +kernel
theorem d_R_goes_119 : decode prog_13_method_37_code 119 = .ok (.bipush 99, 2) := by decide +kernel
theorem d_R_goes_121 : decode prog_13_method_37_code 121 = .ok (.invokestatic 127, 3) := by decide +kernel
theorem d_R_goes_124 : decode prog_13_method_37_code 124 = .ok (.iastore, 1) := by decide +kernel
theorem d_R_goes_125 : decode prog_13_method_37_code 125 = .ok (.aload_n 0, 1) := by decide +kernel
theorem d_R_goes_126 : decode prog_13_method_37_code 126 = .ok (.getfield 7, 3) := by decide +kernel
theorem d_R_goes_129 : decode prog_13_method_37_code 129 = .ok (.iconst 3, 1) := by decide +kernel
theorem d_R_goes_130 : decode prog_13_method_37_code 130 = .ok (.iconst 1, 1) := by decide +kernel
theorem d_R_goes_131 : decode prog_13_method_37_code 131 = .ok (.aload_n 0, 1) := by decide +kernel
theorem d_R_goes_132 : decode prog_13_method_37_code 132 = .ok (.getfield 7, 3) := by decide +kernel
theorem d_R_goes_135 : decode prog_13_method_37_code 135 = .ok (.iconst 3, 1) := by decide +kernel
theorem d_R_goes_136 : decode prog_13_method_37_code 136 = .ok (.iaload, 1) := by decide +kernel
theorem d_R_goes_137 : decode prog_13_method_37_code 137 = .ok (.isub, 1) := by decide +kernel
theorem d_R_goes_138 : decode prog_13_method_37_code 138 = .ok (.iastore, 1) := by decide +kernel
theorem d_R_goes_139 : decode prog_13_method_37_code 139 = .ok (.aload_n 0, 1) := by decide +kernel
theorem d_R_goes_140 : decode prog_13_method_37_code 140 = .ok (.getfield 7, 3) := by decide +kernel
theorem d_R_goes_143 : decode prog_13_method_37_code 143 = .ok (.bipush 7, 2) := by decide +kernel
theorem d_R_goes_145 : decode prog_13_method_37_code 145 = .ok (.dup2, 1) := by decide +kernel
theorem d_R_goes_146 : decode prog_13_method_37_code 146 = .ok (.iaload, 1) := by decide +kernel
theorem d_R_goes_147 : decode prog_13_method_37_code 147 = .ok (.iconst 1, 1) := by decide +kernel
theorem d_R_goes_148 : decode prog_13_method_37_code 148 = .ok (.iadd, 1) := by decide +kernel
theorem d_R_goes_149 : decode prog_13_method_37_code 149 = .ok (.iastore, 1) := by decide +kernel
theorem d_R_goes_150 : decode prog_13_method_37_code 150 = .ok (.aload_n 0, 1) := by decide +kernel
theorem d_R_goes_151 : decode prog_13_method_37_code 151 = .ok (.getfield 7, 3) := by decide +kernel
theorem d_R_goes_154 : decode prog_13_method_37_code 154 = .ok (.iconst 2, 1) := by decide +kernel
theorem d_R_goes_155 : decode prog_13_method_37_code 155 = .ok (.iaload, 1) := by decide +kernel
theorem d_R_goes_156 : decode prog_13_method_37_code 156 = .ok (.aload_n 0, 1) := by decide +kernel
theorem d_R_goes_157 : decode prog_13_method_37_code 157 = .ok (.getfield 7, 3) := by decide +kernel
theorem d_R_goes_160 : decode prog_13_method_37_code 160 = .ok (.iconst 0, 1) := by decide +kernel
theorem d_R_goes_161 : decode prog_13_method_37_code 161 = .ok (.iaload, 1) := by decide +kernel
theorem d_R_goes_162 : decode prog_13_method_37_code 162 = .ok (.if_icmp .lt 33, 3) := by decide +kernel
theorem d_R_goes_165 : decode prog_13_method_37_code 165 = .ok (.aload_n 0, 1) := by decide +kernel
theorem d_R_goes_166 : decode prog_13_method_37_code 166 = .ok (.getfield 7, 3) := by decide +kernel
theorem d_R_goes_169 : decode prog_13_method_37_code 169 = .ok (.iconst 5, 1) := by decide +kernel
theorem d_R_goes_170 : decode prog_13_method_37_code 170 = .ok (.iconst 1, 1) := by decide +kernel
theorem d_R_goes_171 : decode prog_13_method_37_code 171 = .ok (.iastore, 1) := by decide +kernel
theorem d_R_goes_172 : decode prog_13_method_37_code 172 = .ok (.aload_n 0, 1) := by decide +kernel
theorem d_R_goes_173 : decode prog_13_method_37_code 173 = .ok (.getfield 7, 3) := by decide +kernel
theorem d_R_goes_176 : decode prog_13_method_37_code 176 = .ok (.bipush 6, 2) := by decide +kernel
theorem d_R_goes_178 : decode prog_13_method_37_code 178 = .ok (.aload_n 0, 1) := by decide +kernel
theorem d_R_goes_179 : decode prog_13_method_37_code 179 = .ok (.getfield 7, 3) := by decide +kernel
theorem d_R_goes_182 : decode prog_13_method_37_code 182 = .ok (.bipush 6, 2) := by decide +kernel
theorem d_R_goes_184 : decode prog_13_method_37_code 184 = .ok (.iaload, 1) := by decide +kernel
theorem d_R_goes_185 : decode prog_13_method_37_code 185 = .ok (.iconst 1, 1) := by decide +kernel
theorem d_R_goes_186 : decode prog_13_method_37_code 186 = .ok (.iadd, 1) := by decide +kernel
theorem d_R_goes_187 : decode prog_13_method_37_code 187 = .ok (.iconst 0, 1) := by decide +kernel
theorem d_R_goes_188 : decode prog_13_method_37_code 188 = .ok (.sipush 9999, 3) := by decide +kernel
theorem d_R_goes_191 : decode prog_13_method_37_code 191 = .ok (.invokestatic 127, 3) := by decide +kernel
theorem d_R_goes_194 : decode prog_13_method_37_code 194 = .ok (.iastore, 1) := by decide +kernel
theorem d_R_goes_195 : decode prog_13_method_37_code 195 = .ok (.iload 4, 2) := by decide +kernel
theorem d_R_goes_197 : decode prog_13_method_37_code 197 = .ok (.ireturn, 1) := by decide +kernel
theorem d_R_draw_0 : decode prog_13_method_38_code 0 = .ok (.aload_n 0, 1) := by decide +kernel
theorem d_R_draw_1 : decode prog_13_method_38_code 1 = .ok (.getfield 7, 3) := by decide +kernel
theorem d_R_draw_4 : decode prog_13_method_38_code 4 = .ok (.bipush 8, 2) := by decide +kernel
theorem d_R_draw_6 : decode prog_13_method_38_code 6 = .ok (.aload_n 0, 1) := by decide +kernel
theorem d_R_draw_7 : decode prog_13_method_38_code 7 = .ok (.getfield 7, 3) := by decide +kernel
theorem d_R_draw_10 : decode prog_13_method_38_code 10 = .ok (.bipush 8, 2) := by decide +kernel
theorem d_R_draw_12 : decode prog_13_method_38_code 12 = .ok (.iaload, 1) := by decide +kernel
theorem d_R_draw_13 : decode prog_13_method_38_code 13 = .ok (.ldc 148, 2) := by decide +kernel
theorem d_R_draw_15 : decode prog_13_method_38_code 15 = .ok (.imul, 1) := by decide +kernel
theorem d_R_draw_16 : decode prog_13_method_38_code 16 = .ok (.sipush 12345, 3) := by decide +kernel
theorem d_R_draw_19 : decode prog_13_method_38_code 19 = .ok (.iadd, 1) := by decide +kernel
theorem d_R_draw_20 : decode prog_13_method_38_code 20 = .ok (.iastore, 1) := by decide +kernel
theorem d_R_draw_21 : decode prog_13_method_38_code 21 = .ok (.aload_n 0, 1) := by decide +kernel
theorem d_R_draw_22 : decode prog_13_method_38_code 22 = .ok (.getfield 7, 3) := by decide +kernel
theorem d_R_draw_25 : decode prog_13_method_38_code 25 = .ok (.bipush 8, 2) := by decide +kernel
theorem d_R_draw_27 : decode prog_13_method_38_code 27 = .ok (.iaload, 1) := by decide +kernel
theorem d_R_draw_28 : decode prog_13_method_38_code 28 = .ok (.bipush 8, 2) := by decide +kernel
theorem d_R_draw_30 : decode prog_13_method_38_code 30 = .ok (.iushr, 1) := by decide +kernel
theorem d_R_draw_31 : decode prog_13_method_38_code 31 = .ok (.ireturn, 1) := by decide +kernel
theorem d_R_outBy_0 : decode prog_13_method_39_code 0 = .ok (.aload_n 0, 1) := by decide +kernel
theorem d_R_outBy_1 : decode prog_13_method_39_code 1 = .ok (.invokevirtual 149, 3) := by decide +kernel
theorem d_R_outBy_4 : decode prog_13_method_39_code 4 = .ok (.iconst 0, 1) := by decide +kernel
theorem d_R_outBy_5 : decode prog_13_method_39_code 5 = .ok (.istore_n 3, 1) := by decide +kernel
theorem d_R_outBy_6 : decode prog_13_method_39_code 6 = .ok (.aload_n 0, 1) := by decide +kernel
theorem d_R_outBy_7 : decode prog_13_method_39_code 7 = .ok (.invokevirtual 152, 3) := by decide +kernel
theorem d_R_outBy_10 : decode prog_13_method_39_code 10 = .ok (.ifCond .ne 21, 3) := by decide +kernel
theorem d_R_outBy_13 : decode prog_13_method_39_code 13 = .ok (.iload_n 3, 1) := by decide +kernel
theorem d_R_outBy_14 : decode prog_13_method_39_code 14 = .ok (.iload_n 2, 1) := by decide +kernel
theorem d_R_outBy_15 : decode prog_13_method_39_code 15 = .ok (.if_icmp .ge 16, 3) := by decide +kernel
theorem d_R_outBy_18 : decode prog_13_method_39_code 18 = .ok (.aload_n 0, 1) := by decide +kernel
theorem d_R_outBy_19 : decode prog_13_method_39_code 19 = .ok (.iload_n 1, 1) := by decide +kernel
theorem d_R_outBy_20 : decode prog_13_method_39_code 20 = .ok (.invokevirtual 155, 3) := by decide +kernel
theorem d_R_outBy_23 : decode prog_13_method_39_code 23 = .ok (.istore 4, 2) := by decide +kernel
theorem d_R_outBy_25 : decode prog_13_method_39_code 25 = .ok (.iinc 3 1, 3) := by decide +kernel
theorem d_R_outBy_28 : decode prog_13_method_39_code 28 = .ok (.goto (-22), 3) := by decide +kernel
theorem d_R_outBy_31 : decode prog_13_method_39_code 31 = .ok (.aload_n 0, 1) := by decide +kernel
theorem d_R_outBy_32 : decode prog_13_method_39_code 32 = .ok (.invokevirtual 152, 3) := by decide +kernel
theorem d_R_outBy_35 : decode prog_13_method_39_code 35 = .ok (.istore 4, 2) := by decide +kernel
theorem d_R_outBy_37 : decode prog_13_method_39_code 37 = .ok (.aload_n 0, 1) := by decide +kernel
theorem d_R_outBy_38 : decode prog_13_method_39_code 38 = .ok (.invokevirtual 158, 3) := by decide +kernel
theorem d_R_outBy_41 : decode prog_13_method_39_code 41 = .ok (.iload 4, 2) := by decide +kernel
theorem d_R_outBy_43 : decode prog_13_method_39_code 43 = .ok (.ifCond .eq 7, 3) := by decide +kernel
theorem d_R_outBy_46 : decode prog_13_method_39_code 46 = .ok (.iload_n 3, 1) := by decide +kernel
theorem d_R_outBy_47 : decode prog_13_method_39_code 47 = .ok (.goto 4, 3) := by decide +kernel
theorem d_R_outBy_50 : decode prog_13_method_39_code 50 = .ok (.iconst (-1), 1) := by decide +kernel
theorem d_R_outBy_51 : decode prog_13_method_39_code 51 = .ok (.ireturn, 1) := by decide +kernel
theorem d_R_isKind_0 : decode prog_13_method_40_code 0 = .ok (.iload_n 0, 1) := by decide +kernel
theorem d_R_isKind_1 : decode prog_13_method_40_code 1 = .ok (.iconst 0, 1) := by decide +kernel
theorem d_R_isKind_2 : decode prog_13_method_40_code 2 = .ok (.bipush 69, 2) := by decide +kernel
theorem d_R_isKind_4 : decode prog_13_method_40_code 4 = .ok (.invokestatic 51, 3) := by decide +kernel
theorem d_R_isKind_7 : decode prog_13_method_40_code 7 = .ok (.ireturn, 1) := by decide +kernel
theorem d_R_isGas_0 : decode prog_13_method_41_code 0 = .ok (.iload_n 0, 1) := by decide +kernel
theorem d_R_isGas_1 : decode prog_13_method_41_code 1 = .ok (.iconst 0, 1) := by decide +kernel
theorem d_R_isGas_2 : decode prog_13_method_41_code 2 = .ok (.bipush 9, 2) := by decide +kernel
theorem d_R_isGas_4 : decode prog_13_method_41_code 4 = .ok (.invokestatic 51, 3) := by decide +kernel
theorem d_R_isGas_7 : decode prog_13_method_41_code 7 = .ok (.ireturn, 1) := by decide +kernel
theorem d_R_pusher_0 : decode prog_13_method_42_code 0 = .ok (.iload_n 1, 1) := by decide +kernel
theorem d_R_pusher_1 : decode prog_13_method_42_code 1 = .ok (.invokestatic 161, 3) := by decide +kernel
theorem d_R_pusher_4 : decode prog_13_method_42_code 4 = .ok (.ifCond .ne 9, 3) := by decide +kernel
theorem d_R_pusher_7 : decode prog_13_method_42_code 7 = .ok (.aload_n 0, 1) := by decide +kernel
theorem d_R_pusher_8 : decode prog_13_method_42_code 8 = .ok (.iconst 1, 1) := by decide +kernel
theorem d_R_pusher_9 : decode prog_13_method_42_code 9 = .ok (.invokevirtual 55, 3) := by decide +kernel
theorem d_R_pusher_12 : decode prog_13_method_42_code 12 = .ok (.ireturn, 1) := by decide +kernel
theorem d_R_pusher_13 : decode prog_13_method_42_code 13 = .ok (.aload_n 0, 1) := by decide +kernel
theorem d_R_pusher_14 : decode prog_13_method_42_code 14 = .ok (.getfield 7, 3) := by decide +kernel
theorem d_R_pusher_17 : decode prog_13_method_42_code 17 = .ok (.bipush 11, 2) := by decide +kernel
theorem d_R_pusher_19 : decode prog_13_method_42_code 19 = .ok (.iaload, 1) := by decide +kernel
theorem d_R_pusher_20 : decode prog_13_method_42_code 20 = .ok (.bipush 6, 2) := by decide +kernel
theorem d_R_pusher_22 : decode prog_13_method_42_code 22 = .ok (.if_icmp .ne 9, 3) := by decide +kernel
theorem d_R_pusher_25 : decode prog_13_method_42_code 25 = .ok (.aload_n 0, 1) := by decide +kernel
theorem d_R_pusher_26 : decode prog_13_method_42_code 26 = .ok (.iconst 4, 1) := by decide +kernel
theorem d_R_pusher_27 : decode prog_13_method_42_code 27 = .ok (.invokevirtual 55, 3) := by decide +kernel
theorem d_R_pusher_30 : decode prog_13_method_42_code 30 = .ok (.ireturn, 1) := by decide +kernel
theorem d_R_pusher_31 : decode prog_13_method_42_code 31 = .ok (.aload_n 0, 1) := by decide +kernel
theorem d_R_pusher_32 : decode prog_13_method_42_code 32 = .ok (.getfield 7, 3) := by decide +kernel
theorem d_R_pusher_35 : decode prog_13_method_42_code 35 = .ok (.bipush 11, 2) := by decide +kernel
theorem d_R_pusher_37 : decode prog_13_method_42_code 37 = .ok (.iaload, 1) := by decide +kernel
theorem d_R_pusher_38 : decode prog_13_method_42_code 38 = .ok (.istore_n 2, 1) := by decide +kernel
theorem d_R_pusher_39 : decode prog_13_method_42_code 39 = .ok (.aload_n 0, 1) := by decide +kernel
theorem d_R_pusher_40 : decode prog_13_method_42_code 40 = .ok (.iload_n 2, 1) := by decide +kernel
theorem d_R_pusher_41 : decode prog_13_method_42_code 41 = .ok (.iconst 0, 1) := by decide +kernel
theorem d_R_pusher_42 : decode prog_13_method_42_code 42 = .ok (.iload_n 1, 1) := by decide +kernel
theorem d_R_pusher_43 : decode prog_13_method_42_code 43 = .ok (.bipush 10, 2) := by decide +kernel
theorem d_R_pusher_45 : decode prog_13_method_42_code 45 = .ok (.idiv, 1) := by decide +kernel
theorem d_R_pusher_46 : decode prog_13_method_42_code 46 = .ok (.invokevirtual 164, 3) := by decide +kernel
theorem d_R_pusher_49 : decode prog_13_method_42_code 49 = .ok (.aload_n 0, 1) := by decide +kernel
theorem d_R_pusher_50 : decode prog_13_method_42_code 50 = .ok (.iload_n 2, 1) := by decide +kernel
theorem d_R_pusher_51 : decode prog_13_method_42_code 51 = .ok (.iconst 1, 1) := by decide +kernel
theorem d_R_pusher_52 : decode prog_13_method_42_code 52 = .ok (.iload_n 1, 1) := by decide +kernel
theorem d_R_pusher_53 : decode prog_13_method_42_code 53 = .ok (.bipush 10, 2) := by decide +kernel
theorem d_R_pusher_55 : decode prog_13_method_42_code 55 = .ok (.irem, 1) := by decide +kernel
theorem d_R_pusher_56 : decode prog_13_method_42_code 56 = .ok (.invokevirtual 164, 3) := by decide +kernel
theorem d_R_pusher_59 : decode prog_13_method_42_code 59 = .ok (.aload_n 0, 1) := by decide +kernel
theorem d_R_pusher_60 : decode prog_13_method_42_code 60 = .ok (.getfield 7, 3) := by decide +kernel
theorem d_R_pusher_63 : decode prog_13_method_42_code 63 = .ok (.bipush 11, 2) := by decide +kernel
theorem d_R_pusher_65 : decode prog_13_method_42_code 65 = .ok (.dup2, 1) := by decide +kernel
theorem d_R_pusher_66 : decode prog_13_method_42_code 66 = .ok (.iaload, 1) := by decide +kernel
theorem d_R_pusher_67 : decode prog_13_method_42_code 67 = .ok (.iconst 1, 1) := by decide +kernel
theorem d_R_pusher_68 : decode prog_13_method_42_code 68 = .ok (.iadd, 1) := by decide +kernel
theorem d_R_pusher_69 : decode prog_13_method_42_code 69 = .ok (.iastore, 1) := by decide +kernel
theorem d_R_pusher_70 : decode prog_13_method_42_code 70 = .ok (.iload_n 2, 1) := by decide +kernel
theorem d_R_pusher_71 : decode prog_13_method_42_code 71 = .ok (.ireturn, 1) := by decide +kernel
theorem d_R_pusherIs_0 : decode prog_13_method_43_code 0 = .ok (.aload_n 0, 1) := by decide +kernel
theorem d_R_pusherIs_1 : decode prog_13_method_43_code 1 = .ok (.iload_n 1, 1) := by decide +kernel
theorem d_R_pusherIs_2 : decode prog_13_method_43_code 2 = .ok (.invokevirtual 168, 3) := by decide +kernel
theorem d_R_pusherIs_5 : decode prog_13_method_43_code 5 = .ok (.ifCond .eq 12, 3) := by decide +kernel
theorem d_R_pusherIs_8 : decode prog_13_method_43_code 8 = .ok (.iload_n 2, 1) := by decide +kernel
theorem d_R_pusherIs_9 : decode prog_13_method_43_code 9 = .ok (.iconst 0, 1) := by decide +kernel
theorem d_R_pusherIs_10 : decode prog_13_method_43_code 10 = .ok (.iconst 3, 1) := by decide +kernel
theorem d_R_pusherIs_11 : decode prog_13_method_43_code 11 = .ok (.invokestatic 51, 3) := by decide +kernel
theorem d_R_pusherIs_14 : decode prog_13_method_43_code 14 = .ok (.ifCond .ne 9, 3) := by decide +kernel
theorem d_R_pusherIs_17 : decode prog_13_method_43_code 17 = .ok (.aload_n 0, 1) := by decide +kernel
theorem d_R_pusherIs_18 : decode prog_13_method_43_code 18 = .ok (.iconst 1, 1) := by decide +kernel
theorem d_R_pusherIs_19 : decode prog_13_method_43_code 19 = .ok (.invokevirtual 55, 3) := by decide +kernel
theorem d_R_pusherIs_22 : decode prog_13_method_43_code 22 = .ok (.ireturn, 1) := by decide +kernel
theorem d_R_pusherIs_23 : decode prog_13_method_43_code 23 = .ok (.iload_n 2, 1) := by decide +kernel
theorem d_R_pusherIs_24 : decode prog_13_method_43_code 24 = .ok (.iconst 2, 1) := by decide +kernel
theorem d_R_pusherIs_25 : decode prog_13_method_43_code 25 = .ok (.if_icmp .ge 12, 3) := by decide +kernel
theorem d_R_pusherIs_28 : decode prog_13_method_43_code 28 = .ok (.aload_n 0, 1) := by decide +kernel
theorem d_R_pusherIs_29 : decode prog_13_method_43_code 29 = .ok (.iload_n 1, 1) := by decide +kernel
theorem d_R_pusherIs_30 : decode prog_13_method_43_code 30 = .ok (.iload_n 2, 1) := by decide +kernel
theorem d_R_pusherIs_31 : decode prog_13_method_43_code 31 = .ok (.invokevirtual 114, 3) := by decide +kernel
theorem d_R_pusherIs_34 : decode prog_13_method_43_code 34 = .ok (.goto 21, 3) := by decide +kernel
theorem d_R_pusherIs_37 : decode prog_13_method_43_code 37 = .ok (.iload_n 2, 1) := by decide +kernel
theorem d_R_pusherIs_38 : decode prog_13_method_43_code 38 = .ok (.iconst 2, 1) := by decide +kernel
theorem d_R_pusherIs_39 : decode prog_13_method_43_code 39 = .ok (.if_icmp .ne 11, 3) := by decide +kernel
theorem d_R_pusherIs_42 : decode prog_13_method_43_code 42 = .ok (.aload_n 0, 1) := by decide +kernel
theorem d_R_pusherIs_43 : decode prog_13_method_43_code 43 = .ok (.iload_n 1, 1) := by decide +kernel
theorem d_R_pusherIs_44 : decode prog_13_method_43_code 44 = .ok (.invokevirtual 118, 3) := by decide +kernel
theorem d_R_pusherIs_47 : decode prog_13_method_43_code 47 = .ok (.goto 8, 3) := by decide +kernel
theorem d_R_pusherIs_50 : decode prog_13_method_43_code 50 = .ok (.aload_n 0, 1) := by decide +kernel
theorem d_R_pusherIs_51 : decode prog_13_method_43_code 51 = .ok (.iload_n 1, 1) := by decide +kernel
theorem d_R_pusherIs_52 : decode prog_13_method_43_code 52 = .ok (.invokevirtual 121, 3) := by decide +kernel
theorem d_R_pusherIs_55 : decode prog_13_method_43_code 55 = .ok (.ireturn, 1) := by decide +kernel
theorem d_R_become_0 : decode prog_13_method_44_code 0 = .ok (.aload_n 0, 1) := by decide +kernel
theorem d_R_become_1 : decode prog_13_method_44_code 1 = .ok (.iload_n 1, 1) := by decide +kernel
theorem d_R_become_2 : decode prog_13_method_44_code 2 = .ok (.invokevirtual 168, 3) := by decide +kernel
theorem d_R_become_5 : decode prog_13_method_44_code 5 = .ok (.ifCond .eq 10, 3) := by decide +kernel
theorem d_R_become_8 : decode prog_13_method_44_code 8 = .ok (.iload_n 2, 1) := by decide +kernel
theorem d_R_become_9 : decode prog_13_method_44_code 9 = .ok (.invokestatic 161, 3) := by decide +kernel
theorem d_R_become_12 : decode prog_13_method_44_code 12 = .ok (.ifCond .ne 9, 3) := by decide +kernel
theorem d_R_become_15 : decode prog_13_method_44_code 15 = .ok (.aload_n 0, 1) := by decide +kernel
theorem d_R_become_16 : decode prog_13_method_44_code 16 = .ok (.iconst 1, 1) := by decide +kernel
theorem d_R_become_17 : decode prog_13_method_44_code 17 = .ok (.invokevirtual 55, 3) := by decide +kernel
theorem d_R_become_20 : decode prog_13_method_44_code 20 = .ok (.ireturn, 1) := by decide +kernel
theorem d_R_become_21 : decode prog_13_method_44_code 21 = .ok (.aload_n 0, 1) := by decide +kernel
theorem d_R_become_22 : decode prog_13_method_44_code 22 = .ok (.iload_n 1, 1) := by decide +kernel
theorem d_R_become_23 : decode prog_13_method_44_code 23 = .ok (.iconst 1, 1) := by decide +kernel
theorem d_R_become_24 : decode prog_13_method_44_code 24 = .ok (.iload_n 2, 1) := by decide +kernel
theorem d_R_become_25 : decode prog_13_method_44_code 25 = .ok (.bipush 10, 2) := by decide +kernel
theorem d_R_become_27 : decode prog_13_method_44_code 27 = .ok (.irem, 1) := by decide +kernel
theorem d_R_become_28 : decode prog_13_method_44_code 28 = .ok (.invokevirtual 164, 3) := by decide +kernel
theorem d_R_become_31 : decode prog_13_method_44_code 31 = .ok (.aload_n 0, 1) := by decide +kernel
theorem d_R_become_32 : decode prog_13_method_44_code 32 = .ok (.bipush 12, 2) := by decide +kernel
theorem d_R_become_34 : decode prog_13_method_44_code 34 = .ok (.iconst 2, 1) := by decide +kernel
theorem d_R_become_35 : decode prog_13_method_44_code 35 = .ok (.iload_n 1, 1) := by decide +kernel
theorem d_R_become_36 : decode prog_13_method_44_code 36 = .ok (.imul, 1) := by decide +kernel
theorem d_R_become_37 : decode prog_13_method_44_code 37 = .ok (.iadd, 1) := by decide +kernel
theorem d_R_become_38 : decode prog_13_method_44_code 38 = .ok (.iconst 0, 1) := by decide +kernel
theorem d_R_become_39 : decode prog_13_method_44_code 39 = .ok (.iadd, 1) := by decide +kernel
theorem d_R_become_40 : decode prog_13_method_44_code 40 = .ok (.iload_n 2, 1) := by decide +kernel
theorem d_R_become_41 : decode prog_13_method_44_code 41 = .ok (.bipush 10, 2) := by decide +kernel
theorem d_R_become_43 : decode prog_13_method_44_code 43 = .ok (.idiv, 1) := by decide +kernel
theorem d_R_become_44 : decode prog_13_method_44_code 44 = .ok (.invokevirtual 171, 3) := by decide +kernel
theorem d_R_become_47 : decode prog_13_method_44_code 47 = .ok (.ireturn, 1) := by decide +kernel
theorem d_R_as_0 : decode prog_13_method_45_code 0 = .ok (.aload_n 0, 1) := by decide +kernel
theorem d_R_as_1 : decode prog_13_method_45_code 1 = .ok (.iload_n 1, 1) := by decide +kernel
theorem d_R_as_2 : decode prog_13_method_45_code 2 = .ok (.invokevirtual 168, 3) := by decide +kernel
theorem d_R_as_5 : decode prog_13_method_45_code 5 = .ok (.ifCond .eq 13, 3) := by decide +kernel
theorem d_R_as_8 : decode prog_13_method_45_code 8 = .ok (.iload_n 2, 1) := by decide +kernel
theorem d_R_as_9 : decode prog_13_method_45_code 9 = .ok (.iconst 0, 1) := by decide +kernel
theorem d_R_as_10 : decode prog_13_method_45_code 10 = .ok (.bipush 6, 2) := by decide +kernel
theorem d_R_as_12 : decode prog_13_method_45_code 12 = .ok (.invokestatic 51, 3) := by decide +kernel
theorem d_R_as_15 : decode prog_13_method_45_code 15 = .ok (.ifCond .ne 9, 3) := by decide +kernel
theorem d_R_as_18 : decode prog_13_method_45_code 18 = .ok (.aload_n 0, 1) := by decide +kernel
theorem d_R_as_19 : decode prog_13_method_45_code 19 = .ok (.iconst 1, 1) := by decide +kernel
theorem d_R_as_20 : decode prog_13_method_45_code 20 = .ok (.invokevirtual 55, 3) := by decide +kernel
theorem d_R_as_23 : decode prog_13_method_45_code 23 = .ok (.ireturn, 1) := by decide +kernel
theorem d_R_as_24 : decode prog_13_method_45_code 24 = .ok (.aload_n 0, 1) := by decide +kernel
theorem d_R_as_25 : decode prog_13_method_45_code 25 = .ok (.iload_n 1, 1) := by decide +kernel
theorem d_R_as_26 : decode prog_13_method_45_code 26 = .ok (.iconst 0, 1) := by decide +kernel
theorem d_R_as_27 : decode prog_13_method_45_code 27 = .ok (.invokevirtual 114, 3) := by decide +kernel
theorem d_R_as_30 : decode prog_13_method_45_code 30 = .ok (.istore_n 3, 1) := by decide +kernel
theorem d_R_as_31 : decode prog_13_method_45_code 31 = .ok (.iload_n 3, 1) := by decide +kernel
theorem d_R_as_32 : decode prog_13_method_45_code 32 = .ok (.iload_n 2, 1) := by decide +kernel
theorem d_R_as_33 : decode prog_13_method_45_code 33 = .ok (.if_icmp .eq 15, 3) := by decide +kernel
theorem d_R_as_36 : decode prog_13_method_45_code 36 = .ok (.iload_n 3, 1) := by decide +kernel
theorem d_R_as_37 : decode prog_13_method_45_code 37 = .ok (.ifCond .eq 11, 3) := by decide +kernel
theorem d_R_as_40 : decode prog_13_method_45_code 40 = .ok (.iload_n 3, 1) := by decide +kernel
theorem d_R_as_41 : decode prog_13_method_45_code 41 = .ok (.invokestatic 174, 3) := by decide +kernel
theorem d_R_as_44 : decode prog_13_method_45_code 44 = .ok (.istore_n 3, 1) := by decide +kernel
theorem d_R_as_45 : decode prog_13_method_45_code 45 = .ok (.goto (-14), 3) := by decide +kernel
theorem d_R_as_48 : decode prog_13_method_45_code 48 = .ok (.iload_n 3, 1) := by decide +kernel
theorem d_R_as_49 : decode prog_13_method_45_code 49 = .ok (.iload_n 2, 1) := by decide +kernel
theorem d_R_as_50 : decode prog_13_method_45_code 50 = .ok (.if_icmp .ne 12, 3) := by decide +kernel
theorem d_R_as_53 : decode prog_13_method_45_code 53 = .ok (.aload_n 0, 1) := by decide +kernel
theorem d_R_as_54 : decode prog_13_method_45_code 54 = .ok (.iload_n 1, 1) := by decide +kernel
theorem d_R_as_55 : decode prog_13_method_45_code 55 = .ok (.iconst 1, 1) := by decide +kernel
theorem d_R_as_56 : decode prog_13_method_45_code 56 = .ok (.invokevirtual 114, 3) := by decide +kernel
theorem d_R_as_59 : decode prog_13_method_45_code 59 = .ok (.goto 8, 3) := by decide +kernel
theorem d_R_as_62 : decode prog_13_method_45_code 62 = .ok (.aload_n 0, 1) := by decide +kernel
theorem d_R_as_63 : decode prog_13_method_45_code 63 = .ok (.iconst 5, 1) := by decide +kernel
theorem d_R_as_64 : decode prog_13_method_45_code 64 = .ok (.invokevirtual 55, 3) := by decide +kernel
theorem d_R_as_67 : decode prog_13_method_45_code 67 = .ok (.ireturn, 1) := by decide +kernel
theorem d_R_leaves_0 : decode prog_13_method_46_code 0 = .ok (.aload_n 0, 1) := by decide +kernel
theorem d_R_leaves_1 : decode prog_13_method_46_code 1 = .ok (.getfield 7, 3) := by decide +kernel
theorem d_R_leaves_4 : decode prog_13_method_46_code 4 = .ok (.bipush 11, 2) := by decide +kernel
theorem d_R_leaves_6 : decode prog_13_method_46_code 6 = .ok (.iaload, 1) := by decide +kernel
theorem d_R_leaves_7 : decode prog_13_method_46_code 7 = .ok (.ifCond .ne 9, 3) := by decide +kernel
theorem d_R_leaves_10 : decode prog_13_method_46_code 10 = .ok (.aload_n 0, 1) := by decide +kernel
theorem d_R_leaves_11 : decode prog_13_method_46_code 11 = .ok (.iconst 3, 1) := by decide +kernel
theorem d_R_leaves_12 : decode prog_13_method_46_code 12 = .ok (.invokevirtual 55, 3) := by decide +kernel
theorem d_R_leaves_15 : decode prog_13_method_46_code 15 = .ok (.ireturn, 1) := by decide +kernel
theorem d_R_leaves_16 : decode prog_13_method_46_code 16 = .ok (.aload_n 0, 1) := by decide +kernel
theorem d_R_leaves_17 : decode prog_13_method_46_code 17 = .ok (.getfield 7, 3) := by decide +kernel
theorem d_R_leaves_20 : decode prog_13_method_46_code 20 = .ok (.bipush 11, 2) := by decide +kernel
theorem d_R_leaves_22 : decode prog_13_method_46_code 22 = .ok (.dup2, 1) := by decide +kernel
theorem d_R_leaves_23 : decode prog_13_method_46_code 23 = .ok (.iaload, 1) := by decide +kernel
theorem d_R_leaves_24 : decode prog_13_method_46_code 24 = .ok (.iconst 1, 1) := by decide +kernel
theorem d_R_leaves_25 : decode prog_13_method_46_code 25 = .ok (.isub, 1) := by decide +kernel
theorem d_R_leaves_26 : decode prog_13_method_46_code 26 = .ok (.iastore, 1) := by decide +kernel
theorem d_R_leaves_27 : decode prog_13_method_46_code 27 = .ok (.aload_n 0, 1) := by decide +kernel
theorem d_R_leaves_28 : decode prog_13_method_46_code 28 = .ok (.getfield 7, 3) := by decide +kernel
theorem d_R_leaves_31 : decode prog_13_method_46_code 31 = .ok (.bipush 11, 2) := by decide +kernel
theorem d_R_leaves_33 : decode prog_13_method_46_code 33 = .ok (.iaload, 1) := by decide +kernel
theorem d_R_leaves_34 : decode prog_13_method_46_code 34 = .ok (.ireturn, 1) := by decide +kernel
theorem d_R_isOfCar_0 : decode prog_13_method_47_code 0 = .ok (.iload_n 1, 1) := by decide +kernel
theorem d_R_isOfCar_1 : decode prog_13_method_47_code 1 = .ok (.iload_n 0, 1) := by decide +kernel
theorem d_R_isOfCar_2 : decode prog_13_method_47_code 2 = .ok (.ifCond .ne 7, 3) := by decide +kernel
theorem d_R_isOfCar_5 : decode prog_13_method_47_code 5 = .ok (.iconst 1, 1) := by decide +kernel
theorem d_R_isOfCar_6 : decode prog_13_method_47_code 6 = .ok (.goto 4, 3) := by decide +kernel
theorem d_R_isOfCar_9 : decode prog_13_method_47_code 9 = .ok (.iconst 0, 1) := by decide +kernel
theorem d_R_isOfCar_10 : decode prog_13_method_47_code 10 = .ok (.iload_n 0, 1) := by decide +kernel
theorem d_R_isOfCar_11 : decode prog_13_method_47_code 11 = .ok (.ifCond .ne 8, 3) := by decide +kernel
theorem d_R_isOfCar_14 : decode prog_13_method_47_code 14 = .ok (.bipush 60, 2) := by decide +kernel
theorem d_R_isOfCar_16 : decode prog_13_method_47_code 16 = .ok (.goto 14, 3) := by decide +kernel
theorem d_R_isOfCar_19 : decode prog_13_method_47_code 19 = .ok (.iload_n 0, 1) := by decide +kernel
theorem d_R_isOfCar_20 : decode prog_13_method_47_code 20 = .ok (.iconst 3, 1) := by decide +kernel
theorem d_R_isOfCar_21 : decode prog_13_method_47_code 21 = .ok (.if_icmp .ne 7, 3) := by decide +kernel
theorem d_R_isOfCar_24 : decode prog_13_method_47_code 24 = .ok (.iconst 1, 1) := by decide +kernel
theorem d_R_isOfCar_25 : decode prog_13_method_47_code 25 = .ok (.goto 5, 3) := by decide +kernel
theorem d_R_isOfCar_28 : decode prog_13_method_47_code 28 = .ok (.bipush 99, 2) := by decide +kernel
theorem d_R_isOfCar_30 : decode prog_13_method_47_code 30 = .ok (.invokestatic 51, 3) := by decide +kernel
theorem d_R_isOfCar_33 : decode prog_13_method_47_code 33 = .ok (.ireturn, 1) := by decide +kernel
theorem d_R_car_0 : decode prog_13_method_48_code 0 = .ok (.iload_n 1, 1) := by decide +kernel
theorem d_R_car_1 : decode prog_13_method_48_code 1 = .ok (.iconst 0, 1) := by decide +kernel
theorem d_R_car_2 : decode prog_13_method_48_code 2 = .ok (.iconst 4, 1) := by decide +kernel
theorem d_R_car_3 : decode prog_13_method_48_code 3 = .ok (.invokestatic 51, 3) := by decide +kernel
theorem d_R_car_6 : decode prog_13_method_48_code 6 = .ok (.ifCond .eq 20, 3) := by decide +kernel
theorem d_R_car_9 : decode prog_13_method_48_code 9 = .ok (.iload_n 1, 1) := by decide +kernel
theorem d_R_car_10 : decode prog_13_method_48_code 10 = .ok (.iload_n 2, 1) := by decide +kernel
theorem d_R_car_11 : decode prog_13_method_48_code 11 = .ok (.invokestatic 177, 3) := by decide +kernel
theorem d_R_car_14 : decode prog_13_method_48_code 14 = .ok (.ifCond .eq 12, 3) := by decide +kernel
theorem d_R_car_17 : decode prog_13_method_48_code 17 = .ok (.aload_n 0, 1) := by decide +kernel
theorem d_R_car_18 : decode prog_13_method_48_code 18 = .ok (.iload_n 1, 1) := by decide +kernel
theorem d_R_car_19 : decode prog_13_method_48_code 19 = .ok (.iload_n 2, 1) := by decide +kernel
theorem d_R_car_20 : decode prog_13_method_48_code 20 = .ok (.invokevirtual 171, 3) := by decide +kernel
theorem d_R_car_23 : decode prog_13_method_48_code 23 = .ok (.goto 8, 3) := by decide +kernel
theorem d_R_car_26 : decode prog_13_method_48_code 26 = .ok (.aload_n 0, 1) := by decide +kernel
theorem d_R_car_27 : decode prog_13_method_48_code 27 = .ok (.iconst 1, 1) := by decide +kernel
theorem d_R_car_28 : decode prog_13_method_48_code 28 = .ok (.invokevirtual 55, 3) := by decide +kernel
theorem d_R_car_31 : decode prog_13_method_48_code 31 = .ok (.ireturn, 1) := by decide +kernel
