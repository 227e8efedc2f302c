/-! decode rows (printed by wip/whole/gen4.py) -/
theorem d_P_text_0 : decode prog_1_method_11_code 0 = .ok (.iload_n 1, 1) := by decide +kernel
theorem d_P_text_1 : decode prog_1_method_11_code 1 = .ok (.iconst 0, 1) := by decide +kernel
theorem d_P_text_2 : decode prog_1_method_11_code 2 = .ok (.iconst 1, 1) := by decide +kernel
theorem d_P_text_3 : decode prog_1_method_11_code 3 = .ok (.invokestatic 133, 3) := by decide +kernel
theorem d_P_text_6 : decode prog_1_method_11_code 6 = .ok (.ifCond .ne 9, 3) := by decide +kernel
theorem d_P_text_9 : decode prog_1_method_11_code 9 = .ok (.aload_n 0, 1) := by decide +kernel
theorem d_P_text_10 : decode prog_1_method_11_code 10 = .ok (.iconst 1, 1) := by decide +kernel
theorem d_P_text_11 : decode prog_1_method_11_code 11 = .ok (.invokevirtual 66, 3) := by decide +kernel
theorem d_P_text_14 : decode prog_1_method_11_code 14 = .ok (.ireturn, 1) := by decide +kernel
theorem d_P_text_15 : decode prog_1_method_11_code 15 = .ok (.aload_n 0, 1) := by decide +kernel
theorem d_P_text_16 : decode prog_1_method_11_code 16 = .ok (.getfield 36, 3) := by decide +kernel
theorem d_P_text_19 : decode prog_1_method_11_code 19 = .ok (.aload_n 0, 1) := by decide +kernel
theorem d_P_text_20 : decode prog_1_method_11_code 20 = .ok (.getfield 10, 3) := by decide +kernel
theorem d_P_text_23 : decode prog_1_method_11_code 23 = .ok (.getfield 144, 3) := by decide +kernel
theorem d_P_text_26 : decode prog_1_method_11_code 26 = .ok (.iload_n 1, 1) := by decide +kernel
theorem d_P_text_27 : decode prog_1_method_11_code 27 = .ok (.invokevirtual 158, 3) := by decide +kernel
theorem d_P_text_30 : decode prog_1_method_11_code 30 = .ok (.istore_n 2, 1) := by decide +kernel
theorem d_P_text_31 : decode prog_1_method_11_code 31 = .ok (.aload_n 0, 1) := by decide +kernel
theorem d_P_text_32 : decode prog_1_method_11_code 32 = .ok (.getfield 10, 3) := by decide +kernel
theorem d_P_text_35 : decode prog_1_method_11_code 35 = .ok (.getfield 144, 3) := by decide +kernel
theorem d_P_text_38 : decode prog_1_method_11_code 38 = .ok (.invokevirtual 162, 3) := by decide +kernel
theorem d_P_text_41 : decode prog_1_method_11_code 41 = .ok (.iload_n 2, 1) := by decide +kernel
theorem d_P_text_42 : decode prog_1_method_11_code 42 = .ok (.ifCond .ne 14, 3) := by decide +kernel
theorem d_P_text_45 : decode prog_1_method_11_code 45 = .ok (.bipush (-10), 2) := by decide +kernel
theorem d_P_text_47 : decode prog_1_method_11_code 47 = .ok (.aload_n 0, 1) := by decide +kernel
theorem d_P_text_48 : decode prog_1_method_11_code 48 = .ok (.getfield 36, 3) := by decide +kernel
theorem d_P_text_51 : decode prog_1_method_11_code 51 = .ok (.invokevirtual 165, 3) := by decide +kernel
theorem d_P_text_54 : decode prog_1_method_11_code 54 = .ok (.isub, 1) := by decide +kernel
theorem d_P_text_55 : decode prog_1_method_11_code 55 = .ok (.ireturn, 1) := by decide +kernel
theorem d_P_text_56 : decode prog_1_method_11_code 56 = .ok (.aload_n 0, 1) := by decide +kernel
theorem d_P_text_57 : decode prog_1_method_11_code 57 = .ok (.getfield 10, 3) := by decide +kernel
theorem d_P_text_60 : decode prog_1_method_11_code 60 = .ok (.iload_n 1, 1) := by decide +kernel
theorem d_P_text_61 : decode prog_1_method_11_code 61 = .ok (.invokevirtual 168, 3) := by decide +kernel
theorem d_P_text_64 : decode prog_1_method_11_code 64 = .ok (.aload_n 0, 1) := by decide +kernel
theorem d_P_text_65 : decode prog_1_method_11_code 65 = .ok (.getfield 36, 3) := by decide +kernel
theorem d_P_text_68 : decode prog_1_method_11_code 68 = .ok (.invokevirtual 172, 3) := by decide +kernel
theorem d_P_text_71 : decode prog_1_method_11_code 71 = .ok (.invokevirtual 176, 3) := by decide +kernel
theorem d_P_text_74 : decode prog_1_method_11_code 74 = .ok (.iconst 1, 1) := by decide +kernel
theorem d_P_text_75 : decode prog_1_method_11_code 75 = .ok (.ireturn, 1) := by decide +kernel
theorem d_P_untell_0 : decode prog_1_method_12_code 0 = .ok (.iload_n 1, 1) := by decide +kernel
theorem d_P_untell_1 : decode prog_1_method_12_code 1 = .ok (.iconst 0, 1) := by decide +kernel
theorem d_P_untell_2 : decode prog_1_method_12_code 2 = .ok (.iconst 1, 1) := by decide +kernel
theorem d_P_untell_3 : decode prog_1_method_12_code 3 = .ok (.invokestatic 133, 3) := by decide +kernel
theorem d_P_untell_6 : decode prog_1_method_12_code 6 = .ok (.ifCond .ne 9, 3) := by decide +kernel
theorem d_P_untell_9 : decode prog_1_method_12_code 9 = .ok (.aload_n 0, 1) := by decide +kernel
theorem d_P_untell_10 : decode prog_1_method_12_code 10 = .ok (.iconst 1, 1) := by decide +kernel
theorem d_P_untell_11 : decode prog_1_method_12_code 11 = .ok (.invokevirtual 66, 3) := by decide +kernel
theorem d_P_untell_14 : decode prog_1_method_12_code 14 = .ok (.ireturn, 1) := by decide +kernel
theorem d_P_untell_15 : decode prog_1_method_12_code 15 = .ok (.aload_n 0, 1) := by decide +kernel
theorem d_P_untell_16 : decode prog_1_method_12_code 16 = .ok (.getfield 10, 3) := by decide +kernel
theorem d_P_untell_19 : decode prog_1_method_12_code 19 = .ok (.iload_n 1, 1) := by decide +kernel
theorem d_P_untell_20 : decode prog_1_method_12_code 20 = .ok (.invokevirtual 168, 3) := by decide +kernel
theorem d_P_untell_23 : decode prog_1_method_12_code 23 = .ok (.invokevirtual 182, 3) := by decide +kernel
theorem d_P_untell_26 : decode prog_1_method_12_code 26 = .ok (.ifCond .eq 7, 3) := by decide +kernel
theorem d_P_untell_29 : decode prog_1_method_12_code 29 = .ok (.iconst 1, 1) := by decide +kernel
theorem d_P_untell_30 : decode prog_1_method_12_code 30 = .ok (.goto 4, 3) := by decide +kernel
theorem d_P_untell_33 : decode prog_1_method_12_code 33 = .ok (.iconst 0, 1) := by decide +kernel
theorem d_P_untell_34 : decode prog_1_method_12_code 34 = .ok (.ireturn, 1) := by decide +kernel
theorem d_P_law_0 : decode prog_1_method_13_code 0 = .ok (.iload_n 1, 1) := by decide +kernel
theorem d_P_law_1 : decode prog_1_method_13_code 1 = .ok (.iconst 0, 1) := by decide +kernel
theorem d_P_law_2 : decode prog_1_method_13_code 2 = .ok (.iconst 1, 1) := by decide +kernel
theorem d_P_law_3 : decode prog_1_method_13_code 3 = .ok (.invokestatic 133, 3) := by decide +kernel
theorem d_P_law_6 : decode prog_1_method_13_code 6 = .ok (.ifCond .ne 9, 3) := by decide +kernel
theorem d_P_law_9 : decode prog_1_method_13_code 9 = .ok (.aload_n 0, 1) := by decide +kernel
theorem d_P_law_10 : decode prog_1_method_13_code 10 = .ok (.iconst 1, 1) := by decide +kernel
theorem d_P_law_11 : decode prog_1_method_13_code 11 = .ok (.invokevirtual 66, 3) := by decide +kernel
theorem d_P_law_14 : decode prog_1_method_13_code 14 = .ok (.ireturn, 1) := by decide +kernel
theorem d_P_law_15 : decode prog_1_method_13_code 15 = .ok (.aload_n 0, 1) := by decide +kernel
theorem d_P_law_16 : decode prog_1_method_13_code 16 = .ok (.getfield 10, 3) := by decide +kernel
theorem d_P_law_19 : decode prog_1_method_13_code 19 = .ok (.iload_n 1, 1) := by decide +kernel
theorem d_P_law_20 : decode prog_1_method_13_code 20 = .ok (.invokevirtual 168, 3) := by decide +kernel
theorem d_P_law_23 : decode prog_1_method_13_code 23 = .ok (.iload_n 2, 1) := by decide +kernel
theorem d_P_law_24 : decode prog_1_method_13_code 24 = .ok (.iload_n 3, 1) := by decide +kernel
theorem d_P_law_25 : decode prog_1_method_13_code 25 = .ok (.iload 4, 2) := by decide +kernel
theorem d_P_law_27 : decode prog_1_method_13_code 27 = .ok (.invokevirtual 185, 3) := by decide +kernel
theorem d_P_law_30 : decode prog_1_method_13_code 30 = .ok (.ireturn, 1) := by decide +kernel
theorem d_P_swing_0 : decode prog_1_method_14_code 0 = .ok (.iload_n 1, 1) := by decide +kernel
theorem d_P_swing_1 : decode prog_1_method_14_code 1 = .ok (.invokestatic 189, 3) := by decide +kernel
theorem d_P_swing_4 : decode prog_1_method_14_code 4 = .ok (.ifCond .ne 9, 3) := by decide +kernel
theorem d_P_swing_7 : decode prog_1_method_14_code 7 = .ok (.aload_n 0, 1) := by decide +kernel
theorem d_P_swing_8 : decode prog_1_method_14_code 8 = .ok (.iconst 1, 1) := by decide +kernel
theorem d_P_swing_9 : decode prog_1_method_14_code 9 = .ok (.invokevirtual 66, 3) := by decide +kernel
theorem d_P_swing_12 : decode prog_1_method_14_code 12 = .ok (.ireturn, 1) := by decide +kernel
theorem d_P_swing_13 : decode prog_1_method_14_code 13 = .ok (.aload_n 0, 1) := by decide +kernel
theorem d_P_swing_14 : decode prog_1_method_14_code 14 = .ok (.invokevirtual 192, 3) := by decide +kernel
theorem d_P_swing_17 : decode prog_1_method_14_code 17 = .ok (.ifCond .eq 9, 3) := by decide +kernel
theorem d_P_swing_20 : decode prog_1_method_14_code 20 = .ok (.aload_n 0, 1) := by decide +kernel
theorem d_P_swing_21 : decode prog_1_method_14_code 21 = .ok (.iconst 3, 1) := by decide +kernel
theorem d_P_swing_22 : decode prog_1_method_14_code 22 = .ok (.invokevirtual 66, 3) := by decide +kernel
theorem d_P_swing_25 : decode prog_1_method_14_code 25 = .ok (.ireturn, 1) := by decide +kernel
theorem d_P_swing_26 : decode prog_1_method_14_code 26 = .ok (.aload_n 0, 1) := by decide +kernel
theorem d_P_swing_27 : decode prog_1_method_14_code 27 = .ok (.getfield 10, 3) := by decide +kernel
theorem d_P_swing_30 : decode prog_1_method_14_code 30 = .ok (.aload_n 0, 1) := by decide +kernel
theorem d_P_swing_31 : decode prog_1_method_14_code 31 = .ok (.getfield 10, 3) := by decide +kernel
theorem d_P_swing_34 : decode prog_1_method_14_code 34 = .ok (.getfield 93, 3) := by decide +kernel
theorem d_P_swing_37 : decode prog_1_method_14_code 37 = .ok (.iload_n 1, 1) := by decide +kernel
theorem d_P_swing_38 : decode prog_1_method_14_code 38 = .ok (.bipush 63, 2) := by decide +kernel
theorem d_P_swing_40 : decode prog_1_method_14_code 40 = .ok (.invokevirtual 195, 3) := by decide +kernel
theorem d_P_swing_43 : decode prog_1_method_14_code 43 = .ok (.pop, 1) := by decide +kernel
theorem d_P_swing_44 : decode prog_1_method_14_code 44 = .ok (.aload_n 0, 1) := by decide +kernel
theorem d_P_swing_45 : decode prog_1_method_14_code 45 = .ok (.getfield 10, 3) := by decide +kernel
theorem d_P_swing_48 : decode prog_1_method_14_code 48 = .ok (.getfield 93, 3) := by decide +kernel
theorem d_P_swing_51 : decode prog_1_method_14_code 51 = .ok (.getfield 199, 3) := by decide +kernel
theorem d_P_swing_54 : decode prog_1_method_14_code 54 = .ok (.ireturn, 1) := by decide +kernel
theorem d_P_swings_0 : decode prog_1_method_15_code 0 = .ok (.iload_n 1, 1) := by decide +kernel
theorem d_P_swings_1 : decode prog_1_method_15_code 1 = .ok (.iconst 1, 1) := by decide +kernel
theorem d_P_swings_2 : decode prog_1_method_15_code 2 = .ok (.bipush 40, 2) := by decide +kernel
theorem d_P_swings_4 : decode prog_1_method_15_code 4 = .ok (.invokestatic 133, 3) := by decide +kernel
theorem d_P_swings_7 : decode prog_1_method_15_code 7 = .ok (.ifCond .ne 9, 3) := by decide +kernel
theorem d_P_swings_10 : decode prog_1_method_15_code 10 = .ok (.aload_n 0, 1) := by decide +kernel
theorem d_P_swings_11 : decode prog_1_method_15_code 11 = .ok (.iconst 1, 1) := by decide +kernel
theorem d_P_swings_12 : decode prog_1_method_15_code 12 = .ok (.invokevirtual 66, 3) := by decide +kernel
theorem d_P_swings_15 : decode prog_1_method_15_code 15 = .ok (.ireturn, 1) := by decide +kernel
theorem d_P_swings_16 : decode prog_1_method_15_code 16 = .ok (.aload_n 0, 1) := by decide +kernel
theorem d_P_swings_17 : decode prog_1_method_15_code 17 = .ok (.invokevirtual 192, 3) := by decide +kernel
theorem d_P_swings_20 : decode prog_1_method_15_code 20 = .ok (.ifCond .eq 9, 3) := by decide +kernel
theorem d_P_swings_23 : decode prog_1_method_15_code 23 = .ok (.aload_n 0, 1) := by decide +kernel
theorem d_P_swings_24 : decode prog_1_method_15_code 24 = .ok (.iconst 3, 1) := by decide +kernel
theorem d_P_swings_25 : decode prog_1_method_15_code 25 = .ok (.invokevirtual 66, 3) := by decide +kernel
theorem d_P_swings_28 : decode prog_1_method_15_code 28 = .ok (.ireturn, 1) := by decide +kernel
theorem d_P_swings_29 : decode prog_1_method_15_code 29 = .ok (.iconst 0, 1) := by decide +kernel
theorem d_P_swings_30 : decode prog_1_method_15_code 30 = .ok (.istore_n 2, 1) := by decide +kernel
theorem d_P_swings_31 : decode prog_1_method_15_code 31 = .ok (.iload_n 2, 1) := by decide +kernel
theorem d_P_swings_32 : decode prog_1_method_15_code 32 = .ok (.iload_n 1, 1) := by decide +kernel
theorem d_P_swings_33 : decode prog_1_method_15_code 33 = .ok (.if_icmp .ge 60, 3) := by decide +kernel
theorem d_P_swings_36 : decode prog_1_method_15_code 36 = .ok (.aload_n 0, 1) := by decide +kernel
theorem d_P_swings_37 : decode prog_1_method_15_code 37 = .ok (.invokevirtual 192, 3) := by decide +kernel
theorem d_P_swings_40 : decode prog_1_method_15_code 40 = .ok (.ifCond .ne 53, 3) := by decide +kernel
theorem d_P_swings_43 : decode prog_1_method_15_code 43 = .ok (.aload_n 0, 1) := by decide +kernel
theorem d_P_swings_44 : decode prog_1_method_15_code 44 = .ok (.getfield 10, 3) := by decide +kernel
theorem d_P_swings_47 : decode prog_1_method_15_code 47 = .ok (.aload_n 0, 1) := by decide +kernel
theorem d_P_swings_48 : decode prog_1_method_15_code 48 = .ok (.getfield 10, 3) := by decide +kernel
theorem d_P_swings_51 : decode prog_1_method_15_code 51 = .ok (.getfield 202, 3) := by decide +kernel
theorem d_P_swings_54 : decode prog_1_method_15_code 54 = .ok (.invokestatic 205, 3) := by decide +kernel
theorem d_P_swings_57 : decode prog_1_method_15_code 57 = .ok (.putfield 202, 3) := by decide +kernel
theorem d_P_swings_60 : decode prog_1_method_15_code 60 = .ok (.aload_n 0, 1) := by decide +kernel
theorem d_P_swings_61 : decode prog_1_method_15_code 61 = .ok (.getfield 10, 3) := by decide +kernel
theorem d_P_swings_64 : decode prog_1_method_15_code 64 = .ok (.aload_n 0, 1) := by decide +kernel
theorem d_P_swings_65 : decode prog_1_method_15_code 65 = .ok (.getfield 10, 3) := by decide +kernel
theorem d_P_swings_68 : decode prog_1_method_15_code 68 = .ok (.getfield 93, 3) := by decide +kernel
theorem d_P_swings_71 : decode prog_1_method_15_code 71 = .ok (.aload_n 0, 1) := by decide +kernel
theorem d_P_swings_72 : decode prog_1_method_15_code 72 = .ok (.getfield 10, 3) := by decide +kernel
theorem d_P_swings_75 : decode prog_1_method_15_code 75 = .ok (.getfield 202, 3) := by decide +kernel
theorem d_P_swings_78 : decode prog_1_method_15_code 78 = .ok (.invokestatic 208, 3) := by decide +kernel
theorem d_P_swings_81 : decode prog_1_method_15_code 81 = .ok (.bipush 63, 2) := by decide +kernel
theorem d_P_swings_83 : decode prog_1_method_15_code 83 = .ok (.invokevirtual 195, 3) := by decide +kernel
theorem d_P_swings_86 : decode prog_1_method_15_code 86 = .ok (.pop, 1) := by decide +kernel
theorem d_P_swings_87 : decode prog_1_method_15_code 87 = .ok (.iinc 2 1, 3) := by decide +kernel
theorem d_P_swings_90 : decode prog_1_method_15_code 90 = .ok (.goto (-59), 3) := by decide +kernel
theorem d_P_swings_93 : decode prog_1_method_15_code 93 = .ok (.iload_n 2, 1) := by decide +kernel
theorem d_P_swings_94 : decode prog_1_method_15_code 94 = .ok (.ireturn, 1) := by decide +kernel
theorem d_P_shovel_0 : decode prog_1_method_16_code 0 = .ok (.iload_n 1, 1) := by decide +kernel
theorem d_P_shovel_1 : decode prog_1_method_16_code 1 = .ok (.iconst 1, 1) := by decide +kernel
theorem d_P_shovel_2 : decode prog_1_method_16_code 2 = .ok (.bipush 20, 2) := by decide +kernel
theorem d_P_shovel_4 : decode prog_1_method_16_code 4 = .ok (.invokestatic 133, 3) := by decide +kernel
theorem d_P_shovel_7 : decode prog_1_method_16_code 7 = .ok (.ifCond .ne 9, 3) := by decide +kernel
theorem d_P_shovel_10 : decode prog_1_method_16_code 10 = .ok (.aload_n 0, 1) := by decide +kernel
theorem d_P_shovel_11 : decode prog_1_method_16_code 11 = .ok (.iconst 1, 1) := by decide +kernel
theorem d_P_shovel_12 : decode prog_1_method_16_code 12 = .ok (.invokevirtual 66, 3) := by decide +kernel
theorem d_P_shovel_15 : decode prog_1_method_16_code 15 = .ok (.ireturn, 1) := by decide +kernel
theorem d_P_shovel_16 : decode prog_1_method_16_code 16 = .ok (.aload_n 0, 1) := by decide +kernel
theorem d_P_shovel_17 : decode prog_1_method_16_code 17 = .ok (.getfield 10, 3) := by decide +kernel
theorem d_P_shovel_20 : decode prog_1_method_16_code 20 = .ok (.getfield 93, 3) := by decide +kernel
theorem d_P_shovel_23 : decode prog_1_method_16_code 23 = .ok (.iload_n 1, 1) := by decide +kernel
theorem d_P_shovel_24 : decode prog_1_method_16_code 24 = .ok (.invokevirtual 211, 3) := by decide +kernel
theorem d_P_shovel_27 : decode prog_1_method_16_code 27 = .ok (.aload_n 0, 1) := by decide +kernel
theorem d_P_shovel_28 : decode prog_1_method_16_code 28 = .ok (.getfield 10, 3) := by decide +kernel
theorem d_P_shovel_31 : decode prog_1_method_16_code 31 = .ok (.getfield 93, 3) := by decide +kernel
theorem d_P_shovel_34 : decode prog_1_method_16_code 34 = .ok (.getfield 214, 3) := by decide +kernel
theorem d_P_shovel_37 : decode prog_1_method_16_code 37 = .ok (.ireturn, 1) := by decide +kernel
theorem d_P_seed_0 : decode prog_1_method_17_code 0 = .ok (.aload_n 0, 1) := by decide +kernel
theorem d_P_seed_1 : decode prog_1_method_17_code 1 = .ok (.getfield 10, 3) := by decide +kernel
theorem d_P_seed_4 : decode prog_1_method_17_code 4 = .ok (.getfield 202, 3) := by decide +kernel
theorem d_P_seed_7 : decode prog_1_method_17_code 7 = .ok (.istore_n 2, 1) := by decide +kernel
theorem d_P_seed_8 : decode prog_1_method_17_code 8 = .ok (.aload_n 0, 1) := by decide +kernel
theorem d_P_seed_9 : decode prog_1_method_17_code 9 = .ok (.getfield 10, 3) := by decide +kernel
theorem d_P_seed_12 : decode prog_1_method_17_code 12 = .ok (.iload_n 1, 1) := by decide +kernel
theorem d_P_seed_13 : decode prog_1_method_17_code 13 = .ok (.putfield 202, 3) := by decide +kernel
theorem d_P_seed_16 : decode prog_1_method_17_code 16 = .ok (.iload_n 2, 1) := by decide +kernel
theorem d_P_seed_17 : decode prog_1_method_17_code 17 = .ok (.ireturn, 1) := by decide +kernel
theorem d_P_now_0 : decode prog_1_method_18_code 0 = .ok (.iload_n 1, 1) := by decide +kernel
theorem d_P_now_1 : decode prog_1_method_18_code 1 = .ok (.tableswitch 76 0 2 #[27, 44, 61], 27) := by decide +kernel
theorem d_P_now_28 : decode prog_1_method_18_code 28 = .ok (.aload_n 0, 1) := by decide +kernel
theorem d_P_now_29 : decode prog_1_method_18_code 29 = .ok (.getfield 10, 3) := by decide +kernel
theorem d_P_now_32 : decode prog_1_method_18_code 32 = .ok (.aload_n 0, 1) := by decide +kernel
theorem d_P_now_33 : decode prog_1_method_18_code 33 = .ok (.getfield 10, 3) := by decide +kernel
theorem d_P_now_36 : decode prog_1_method_18_code 36 = .ok (.getfield 93, 3) := by decide +kernel
theorem d_P_now_39 : decode prog_1_method_18_code 39 = .ok (.bipush 63, 2) := by decide +kernel
theorem d_P_now_41 : decode prog_1_method_18_code 41 = .ok (.invokevirtual 217, 3) := by decide +kernel
theorem d_P_now_44 : decode prog_1_method_18_code 44 = .ok (.ireturn, 1) := by decide +kernel
theorem d_P_now_45 : decode prog_1_method_18_code 45 = .ok (.aload_n 0, 1) := by decide +kernel
theorem d_P_now_46 : decode prog_1_method_18_code 46 = .ok (.getfield 10, 3) := by decide +kernel
theorem d_P_now_49 : decode prog_1_method_18_code 49 = .ok (.aload_n 0, 1) := by decide +kernel
theorem d_P_now_50 : decode prog_1_method_18_code 50 = .ok (.getfield 10, 3) := by decide +kernel
theorem d_P_now_53 : decode prog_1_method_18_code 53 = .ok (.getfield 93, 3) := by decide +kernel
theorem d_P_now_56 : decode prog_1_method_18_code 56 = .ok (.bipush 63, 2) := by decide +kernel
theorem d_P_now_58 : decode prog_1_method_18_code 58 = .ok (.invokevirtual 221, 3) := by decide +kernel
theorem d_P_now_61 : decode prog_1_method_18_code 61 = .ok (.ireturn, 1) := by decide +kernel
theorem d_P_now_62 : decode prog_1_method_18_code 62 = .ok (.aload_n 0, 1) := by decide +kernel
theorem d_P_now_63 : decode prog_1_method_18_code 63 = .ok (.getfield 10, 3) := by decide +kernel
theorem d_P_now_66 : decode prog_1_method_18_code 66 = .ok (.aload_n 0, 1) := by decide +kernel
theorem d_P_now_67 : decode prog_1_method_18_code 67 = .ok (.getfield 10, 3) := by decide +kernel
theorem d_P_now_70 : decode prog_1_method_18_code 70 = .ok (.getfield 93, 3) := by decide +kernel
theorem d_P_now_73 : decode prog_1_method_18_code 73 = .ok (.invokevirtual 223, 3) := by decide +kernel
theorem d_P_now_76 : decode prog_1_method_18_code 76 = .ok (.ireturn, 1) := by decide +kernel
theorem d_P_now_77 : decode prog_1_method_18_code 77 = .ok (.aload_n 0, 1) := by decide +kernel
theorem d_P_now_78 : decode prog_1_method_18_code 78 = .ok (.iconst 1, 1) := by decide +kernel
theorem d_P_now_79 : decode prog_1_method_18_code 79 = .ok (.invokevirtual 66, 3) := by decide +kernel
theorem d_P_now_82 : decode prog_1_method_18_code 82 = .ok (.ireturn, 1) := by decide +kernel
theorem d_P_would_0 : decode prog_1_method_19_code 0 = .ok (.iload_n 1, 1) := by decide +kernel
theorem d_P_would_1 : decode prog_1_method_19_code 1 = .ok (.invokestatic 189, 3) := by decide +kernel
theorem d_P_would_4 : decode prog_1_method_19_code 4 = .ok (.ifCond .eq 12, 3) := by decide +kernel
theorem d_P_would_7 : decode prog_1_method_19_code 7 = .ok (.iload_n 2, 1) := by decide +kernel
theorem d_P_would_8 : decode prog_1_method_19_code 8 = .ok (.iconst 0, 1) := by decide +kernel
theorem d_P_would_9 : decode prog_1_method_19_code 9 = .ok (.iconst 4, 1) := by decide +kernel
theorem d_P_would_10 : decode prog_1_method_19_code 10 = .ok (.invokestatic 133, 3) := by decide +kernel
theorem d_P_would_13 : decode prog_1_method_19_code 13 = .ok (.ifCond .ne 9, 3) := by decide +kernel
theorem d_P_would_16 : decode prog_1_method_19_code 16 = .ok (.aload_n 0, 1) := by decide +kernel
theorem d_P_would_17 : decode prog_1_method_19_code 17 = .ok (.iconst 1, 1) := by decide +kernel
theorem d_P_would_18 : decode prog_1_method_19_code 18 = .ok (.invokevirtual 66, 3) := by decide +kernel
theorem d_P_would_21 : decode prog_1_method_19_code 21 = .ok (.ireturn, 1) := by decide +kernel
theorem d_P_would_22 : decode prog_1_method_19_code 22 = .ok (.aload_n 0, 1) := by decide +kernel
theorem d_P_would_23 : decode prog_1_method_19_code 23 = .ok (.getfield 22, 3) := by decide +kernel
theorem d_P_would_26 : decode prog_1_method_19_code 26 = .ok (.aload_n 0, 1) := by decide +kernel
theorem d_P_would_27 : decode prog_1_method_19_code 27 = .ok (.getfield 10, 3) := by decide +kernel
theorem d_P_would_30 : decode prog_1_method_19_code 30 = .ok (.getfield 93, 3) := by decide +kernel
theorem d_P_would_33 : decode prog_1_method_19_code 33 = .ok (.invokevirtual 227, 3) := by decide +kernel
theorem d_P_would_36 : decode prog_1_method_19_code 36 = .ok (.aload_n 0, 1) := by decide +kernel
theorem d_P_would_37 : decode prog_1_method_19_code 37 = .ok (.getfield 10, 3) := by decide +kernel
theorem d_P_would_40 : decode prog_1_method_19_code 40 = .ok (.aload_n 0, 1) := by decide +kernel
theorem d_P_would_41 : decode prog_1_method_19_code 41 = .ok (.getfield 22, 3) := by decide +kernel
theorem d_P_would_44 : decode prog_1_method_19_code 44 = .ok (.iload_n 1, 1) := by decide +kernel
theorem d_P_would_45 : decode prog_1_method_19_code 45 = .ok (.bipush 63, 2) := by decide +kernel
theorem d_P_would_47 : decode prog_1_method_19_code 47 = .ok (.invokevirtual 195, 3) := by decide +kernel
theorem d_P_would_50 : decode prog_1_method_19_code 50 = .ok (.istore_n 3, 1) := by decide +kernel
theorem d_P_would_51 : decode prog_1_method_19_code 51 = .ok (.iload_n 2, 1) := by decide +kernel
theorem d_P_would_52 : decode prog_1_method_19_code 52 = .ok (.tableswitch 66 0 3 #[32, 40, 48, 56], 32) := by decide +kernel
theorem d_P_would_84 : decode prog_1_method_19_code 84 = .ok (.aload_n 0, 1) := by decide +kernel
theorem d_P_would_85 : decode prog_1_method_19_code 85 = .ok (.getfield 22, 3) := by decide +kernel
theorem d_P_would_88 : decode prog_1_method_19_code 88 = .ok (.getfield 199, 3) := by decide +kernel
theorem d_P_would_91 : decode prog_1_method_19_code 91 = .ok (.ireturn, 1) := by decide +kernel
theorem d_P_would_92 : decode prog_1_method_19_code 92 = .ok (.aload_n 0, 1) := by decide +kernel
theorem d_P_would_93 : decode prog_1_method_19_code 93 = .ok (.getfield 22, 3) := by decide +kernel
theorem d_P_would_96 : decode prog_1_method_19_code 96 = .ok (.getfield 214, 3) := by decide +kernel
theorem d_P_would_99 : decode prog_1_method_19_code 99 = .ok (.ireturn, 1) := by decide +kernel
theorem d_P_would_100 : decode prog_1_method_19_code 100 = .ok (.aload_n 0, 1) := by decide +kernel
theorem d_P_would_101 : decode prog_1_method_19_code 101 = .ok (.getfield 22, 3) := by decide +kernel
theorem d_P_would_104 : decode prog_1_method_19_code 104 = .ok (.getfield 231, 3) := by decide +kernel
theorem d_P_would_107 : decode prog_1_method_19_code 107 = .ok (.ireturn, 1) := by decide +kernel
theorem d_P_would_108 : decode prog_1_method_19_code 108 = .ok (.iload_n 3, 1) := by decide +kernel
theorem d_P_would_109 : decode prog_1_method_19_code 109 = .ok (.ifCond .eq 7, 3) := by decide +kernel
theorem d_P_would_112 : decode prog_1_method_19_code 112 = .ok (.iconst 1, 1) := by decide +kernel
theorem d_P_would_113 : decode prog_1_method_19_code 113 = .ok (.goto 4, 3) := by decide +kernel
theorem d_P_would_116 : decode prog_1_method_19_code 116 = .ok (.iconst 0, 1) := by decide +kernel
theorem d_P_would_117 : decode prog_1_method_19_code 117 = .ok (.ireturn, 1) := by decide +kernel
theorem d_P_would_118 : decode prog_1_method_19_code 118 = .ok (.aload_n 0, 1) := by decide +kernel
theorem d_P_would_119 : decode prog_1_method_19_code 119 = .ok (.getfield 22, 3) := by decide +kernel
theorem d_P_would_122 : decode prog_1_method_19_code 122 = .ok (.invokevirtual 234, 3) := by decide +kernel
theorem d_P_would_125 : decode prog_1_method_19_code 125 = .ok (.ifCond .eq 7, 3) := by decide +kernel
theorem d_P_would_128 : decode prog_1_method_19_code 128 = .ok (.iconst 1, 1) := by decide +kernel
theorem d_P_would_129 : decode prog_1_method_19_code 129 = .ok (.goto 4, 3) := by decide +kernel
theorem d_P_would_132 : decode prog_1_method_19_code 132 = .ok (.iconst 0, 1) := by decide +kernel
theorem d_P_would_133 : decode prog_1_method_19_code 133 = .ok (.ireturn, 1) := by decide +kernel
theorem d_P_plan_0 : decode prog_1_method_20_code 0 = .ok (.iload_n 1, 1) := by decide +kernel
theorem d_P_plan_1 : decode prog_1_method_20_code 1 = .ok (.iconst 1, 1) := by decide +kernel
theorem d_P_plan_2 : decode prog_1_method_20_code 2 = .ok (.iconst 4, 1) := by decide +kernel
theorem d_P_plan_3 : decode prog_1_method_20_code 3 = .ok (.invokestatic 133, 3) := by decide +kernel
theorem d_P_plan_6 : decode prog_1_method_20_code 6 = .ok (.ifCond .eq 15, 3) := by decide +kernel
theorem d_P_plan_9 : decode prog_1_method_20_code 9 = .ok (.iload_n 2, 1) := by decide +kernel
theorem d_P_plan_10 : decode prog_1_method_20_code 10 = .ok (.bipush (-2), 2) := by decide +kernel
theorem d_P_plan_12 : decode prog_1_method_20_code 12 = .ok (.iload_n 1, 1) := by decide +kernel
theorem d_P_plan_13 : decode prog_1_method_20_code 13 = .ok (.iconst 1, 1) := by decide +kernel
theorem d_P_plan_14 : decode prog_1_method_20_code 14 = .ok (.isub, 1) := by decide +kernel
theorem d_P_plan_15 : decode prog_1_method_20_code 15 = .ok (.invokestatic 133, 3) := by decide +kernel
theorem d_P_plan_18 : decode prog_1_method_20_code 18 = .ok (.ifCond .ne 9, 3) := by decide +kernel
theorem d_P_plan_21 : decode prog_1_method_20_code 21 = .ok (.aload_n 0, 1) := by decide +kernel
theorem d_P_plan_22 : decode prog_1_method_20_code 22 = .ok (.iconst 1, 1) := by decide +kernel
theorem d_P_plan_23 : decode prog_1_method_20_code 23 = .ok (.invokevirtual 66, 3) := by decide +kernel
theorem d_P_plan_26 : decode prog_1_method_20_code 26 = .ok (.ireturn, 1) := by decide +kernel
theorem d_P_plan_27 : decode prog_1_method_20_code 27 = .ok (.aload_n 0, 1) := by decide +kernel
theorem d_P_plan_28 : decode prog_1_method_20_code 28 = .ok (.getfield 10, 3) := by decide +kernel
theorem d_P_plan_31 : decode prog_1_method_20_code 31 = .ok (.getfield 93, 3) := by decide +kernel
theorem d_P_plan_34 : decode prog_1_method_20_code 34 = .ok (.getfield 237, 3) := by decide +kernel
theorem d_P_plan_37 : decode prog_1_method_20_code 37 = .ok (.ifCond .eq 9, 3) := by decide +kernel
theorem d_P_plan_40 : decode prog_1_method_20_code 40 = .ok (.aload_n 0, 1) := by decide +kernel
theorem d_P_plan_41 : decode prog_1_method_20_code 41 = .ok (.iconst 3, 1) := by decide +kernel
theorem d_P_plan_42 : decode prog_1_method_20_code 42 = .ok (.invokevirtual 66, 3) := by decide +kernel
theorem d_P_plan_45 : decode prog_1_method_20_code 45 = .ok (.ireturn, 1) := by decide +kernel
theorem d_P_plan_46 : decode prog_1_method_20_code 46 = .ok (.aload_n 0, 1) := by decide +kernel
theorem d_P_plan_47 : decode prog_1_method_20_code 47 = .ok (.getfield 29, 3) := by decide +kernel
theorem d_P_plan_50 : decode prog_1_method_20_code 50 = .ok (.aload_n 0, 1) := by decide +kernel
theorem d_P_plan_51 : decode prog_1_method_20_code 51 = .ok (.getfield 10, 3) := by decide +kernel
theorem d_P_plan_54 : decode prog_1_method_20_code 54 = .ok (.iload_n 1, 1) := by decide +kernel
theorem d_P_plan_55 : decode prog_1_method_20_code 55 = .ok (.invokevirtual 241, 3) := by decide +kernel
theorem d_P_plan_58 : decode prog_1_method_20_code 58 = .ok (.iload_n 2, 1) := by decide +kernel
theorem d_P_plan_59 : decode prog_1_method_20_code 59 = .ok (.bipush (-2), 2) := by decide +kernel
theorem d_P_plan_61 : decode prog_1_method_20_code 61 = .ok (.if_icmp .ne 11, 3) := by decide +kernel
theorem d_P_plan_64 : decode prog_1_method_20_code 64 = .ok (.aload_n 0, 1) := by decide +kernel
theorem d_P_plan_65 : decode prog_1_method_20_code 65 = .ok (.getfield 29, 3) := by decide +kernel
theorem d_P_plan_68 : decode prog_1_method_20_code 68 = .ok (.invokevirtual 245, 3) := by decide +kernel
theorem d_P_plan_71 : decode prog_1_method_20_code 71 = .ok (.ireturn, 1) := by decide +kernel
theorem d_P_plan_72 : decode prog_1_method_20_code 72 = .ok (.iload_n 2, 1) := by decide +kernel
theorem d_P_plan_73 : decode prog_1_method_20_code 73 = .ok (.iconst (-1), 1) := by decide +kernel
theorem d_P_plan_74 : decode prog_1_method_20_code 74 = .ok (.if_icmp .ne 13, 3) := by decide +kernel
theorem d_P_plan_77 : decode prog_1_method_20_code 77 = .ok (.aload_n 0, 1) := by decide +kernel
theorem d_P_plan_78 : decode prog_1_method_20_code 78 = .ok (.getfield 29, 3) := by decide +kernel
theorem d_P_plan_81 : decode prog_1_method_20_code 81 = .ok (.invokevirtual 248, 3) := by decide +kernel
theorem d_P_plan_84 : decode prog_1_method_20_code 84 = .ok (.goto 11, 3) := by decide +kernel
theorem d_P_plan_87 : decode prog_1_method_20_code 87 = .ok (.aload_n 0, 1) := by decide +kernel
theorem d_P_plan_88 : decode prog_1_method_20_code 88 = .ok (.getfield 29, 3) := by decide +kernel
theorem d_P_plan_91 : decode prog_1_method_20_code 91 = .ok (.iload_n 2, 1) := by decide +kernel
theorem d_P_plan_92 : decode prog_1_method_20_code 92 = .ok (.invokevirtual 251, 3) := by decide +kernel
theorem d_P_plan_95 : decode prog_1_method_20_code 95 = .ok (.ireturn, 1) := by decide +kernel
theorem d_P_steady_0 : decode prog_1_method_21_code 0 = .ok (.iload_n 1, 1) := by decide +kernel
theorem d_P_steady_1 : decode prog_1_method_21_code 1 = .ok (.invokestatic 189, 3) := by decide +kernel
theorem d_P_steady_4 : decode prog_1_method_21_code 4 = .ok (.ifCond .ne 9, 3) := by decide +kernel
theorem d_P_steady_7 : decode prog_1_method_21_code 7 = .ok (.aload_n 0, 1) := by decide +kernel
theorem d_P_steady_8 : decode prog_1_method_21_code 8 = .ok (.iconst 1, 1) := by decide +kernel
theorem d_P_steady_9 : decode prog_1_method_21_code 9 = .ok (.invokevirtual 66, 3) := by decide +kernel
theorem d_P_steady_12 : decode prog_1_method_21_code 12 = .ok (.ireturn, 1) := by decide +kernel
theorem d_P_steady_13 : decode prog_1_method_21_code 13 = .ok (.aload_n 0, 1) := by decide +kernel
theorem d_P_steady_14 : decode prog_1_method_21_code 14 = .ok (.iload_n 1, 1) := by decide +kernel
theorem d_P_steady_15 : decode prog_1_method_21_code 15 = .ok (.invokevirtual 254, 3) := by decide +kernel
theorem d_P_steady_18 : decode prog_1_method_21_code 18 = .ok (.istore_n 2, 1) := by decide +kernel
theorem d_P_steady_19 : decode prog_1_method_21_code 19 = .ok (.iload_n 2, 1) := by decide +kernel
theorem d_P_steady_20 : decode prog_1_method_21_code 20 = .ok (.ifCond .ge 11, 3) := by decide +kernel
theorem d_P_steady_23 : decode prog_1_method_21_code 23 = .ok (.aload_n 0, 1) := by decide +kernel
theorem d_P_steady_24 : decode prog_1_method_21_code 24 = .ok (.iconst 2, 1) := by decide +kernel
theorem d_P_steady_25 : decode prog_1_method_21_code 25 = .ok (.invokevirtual 66, 3) := by decide +kernel
theorem d_P_steady_28 : decode prog_1_method_21_code 28 = .ok (.goto 4, 3) := by decide +kernel
theorem d_P_steady_31 : decode prog_1_method_21_code 31 = .ok (.iload_n 2, 1) := by decide +kernel
theorem d_P_steady_32 : decode prog_1_method_21_code 32 = .ok (.ireturn, 1) := by decide +kernel
theorem d_P_least_0 : decode prog_1_method_22_code 0 = .ok (.iconst 0, 1) := by decide +kernel
theorem d_P_least_1 : decode prog_1_method_22_code 1 = .ok (.istore_n 1, 1) := by decide +kernel
theorem d_P_least_2 : decode prog_1_method_22_code 2 = .ok (.iload_n 1, 1) := by decide +kernel
theorem d_P_least_3 : decode prog_1_method_22_code 3 = .ok (.bipush 9, 2) := by decide +kernel
theorem d_P_least_5 : decode prog_1_method_22_code 5 = .ok (.if_icmp .gt 19, 3) := by decide +kernel
theorem d_P_least_8 : decode prog_1_method_22_code 8 = .ok (.aload_n 0, 1) := by decide +kernel
theorem d_P_least_9 : decode prog_1_method_22_code 9 = .ok (.iload_n 1, 1) := by decide +kernel
theorem d_P_least_10 : decode prog_1_method_22_code 10 = .ok (.invokevirtual 254, 3) := by decide +kernel
theorem d_P_least_13 : decode prog_1_method_22_code 13 = .ok (.ifCond .lt 5, 3) := by decide +kernel
theorem d_P_least_16 : decode prog_1_method_22_code 16 = .ok (.iload_n 1, 1) := by decide +kernel
theorem d_P_least_17 : decode prog_1_method_22_code 17 = .ok (.ireturn, 1) := by decide +kernel
theorem d_P_least_18 : decode prog_1_method_22_code 18 = .ok (.iinc 1 1, 3) := by decide +kernel
theorem d_P_least_21 : decode prog_1_method_22_code 21 = .ok (.goto (-19), 3) := by decide +kernel
theorem d_P_least_24 : decode prog_1_method_22_code 24 = .ok (.aload_n 0, 1) := by decide +kernel
theorem d_P_least_25 : decode prog_1_method_22_code 25 = .ok (.iconst 2, 1) := by decide +kernel
theorem d_P_least_26 : decode prog_1_method_22_code 26 = .ok (.invokevirtual 66, 3) := by decide +kernel
theorem d_P_least_29 : decode prog_1_method_22_code 29 = .ok (.ireturn, 1) := by decide +kernel
theorem d_P_crew_0 : decode prog_1_method_23_code 0 = .ok (.iload_n 1, 1) := by decide +kernel
theorem d_P_crew_1 : decode prog_1_method_23_code 1 = .ok (.invokestatic 189, 3) := by decide +kernel
theorem d_P_crew_4 : decode prog_1_method_23_code 4 = .ok (.ifCond .eq 22, 3) := by decide +kernel
theorem d_P_crew_7 : decode prog_1_method_23_code 7 = .ok (.iload_n 2, 1) := by decide +kernel
theorem d_P_crew_8 : decode prog_1_method_23_code 8 = .ok (.iconst 1, 1) := by decide +kernel
theorem d_P_crew_9 : decode prog_1_method_23_code 9 = .ok (.bipush 60, 2) := by decide +kernel
theorem d_P_crew_11 : decode prog_1_method_23_code 11 = .ok (.invokestatic 133, 3) := by decide +kernel
theorem d_P_crew_14 : decode prog_1_method_23_code 14 = .ok (.ifCond .eq 12, 3) := by decide +kernel
theorem d_P_crew_17 : decode prog_1_method_23_code 17 = .ok (.iload_n 3, 1) := by decide +kernel
theorem d_P_crew_18 : decode prog_1_method_23_code 18 = .ok (.iconst 0, 1) := by decide +kernel
theorem d_P_crew_19 : decode prog_1_method_23_code 19 = .ok (.iconst 1, 1) := by decide +kernel
theorem d_P_crew_20 : decode prog_1_method_23_code 20 = .ok (.invokestatic 133, 3) := by decide +kernel
theorem d_P_crew_23 : decode prog_1_method_23_code 23 = .ok (.ifCond .ne 9, 3) := by decide +kernel
theorem d_P_crew_26 : decode prog_1_method_23_code 26 = .ok (.aload_n 0, 1) := by decide +kernel
theorem d_P_crew_27 : decode prog_1_method_23_code 27 = .ok (.iconst 1, 1) := by decide +kernel
theorem d_P_crew_28 : decode prog_1_method_23_code 28 = .ok (.invokevirtual 66, 3) := by decide +kernel
theorem d_P_crew_31 : decode prog_1_method_23_code 31 = .ok (.ireturn, 1) := by decide +kernel
theorem d_P_crew_32 : decode prog_1_method_23_code 32 = .ok (.aload_n 0, 1) := by decide +kernel
theorem d_P_crew_33 : decode prog_1_method_23_code 33 = .ok (.iload_n 1, 1) := by decide +kernel
theorem d_P_crew_34 : decode prog_1_method_23_code 34 = .ok (.iload_n 2, 1) := by decide +kernel
theorem d_P_crew_35 : decode prog_1_method_23_code 35 = .ok (.invokevirtual 257, 3) := by decide +kernel
theorem d_P_crew_38 : decode prog_1_method_23_code 38 = .ok (.istore 4, 2) := by decide +kernel
theorem d_P_crew_40 : decode prog_1_method_23_code 40 = .ok (.iload 4, 2) := by decide +kernel
theorem d_P_crew_42 : decode prog_1_method_23_code 42 = .ok (.ifCond .ge 9, 3) := by decide +kernel
theorem d_P_crew_45 : decode prog_1_method_23_code 45 = .ok (.aload_n 0, 1) := by decide +kernel
theorem d_P_crew_46 : decode prog_1_method_23_code 46 = .ok (.iconst 2, 1) := by decide +kernel
theorem d_P_crew_47 : decode prog_1_method_23_code 47 = .ok (.invokevirtual 66, 3) := by decide +kernel
theorem d_P_crew_50 : decode prog_1_method_23_code 50 = .ok (.ireturn, 1) := by decide +kernel
theorem d_P_crew_51 : decode prog_1_method_23_code 51 = .ok (.iload_n 3, 1) := by decide +kernel
theorem d_P_crew_52 : decode prog_1_method_23_code 52 = .ok (.ifCond .ne 11, 3) := by decide +kernel
theorem d_P_crew_55 : decode prog_1_method_23_code 55 = .ok (.iload 4, 2) := by decide +kernel
theorem d_P_crew_57 : decode prog_1_method_23_code 57 = .ok (.invokestatic 260, 3) := by decide +kernel
theorem d_P_crew_60 : decode prog_1_method_23_code 60 = .ok (.goto 5, 3) := by decide +kernel
theorem d_P_crew_63 : decode prog_1_method_23_code 63 = .ok (.iload 4, 2) := by decide +kernel
theorem d_P_crew_65 : decode prog_1_method_23_code 65 = .ok (.ireturn, 1) := by decide +kernel
theorem d_P_deepest_0 : decode prog_1_method_24_code 0 = .ok (.iload_n 1, 1) := by decide +kernel
theorem d_P_deepest_1 : decode prog_1_method_24_code 1 = .ok (.invokestatic 189, 3) := by decide +kernel
theorem d_P_deepest_4 : decode prog_1_method_24_code 4 = .ok (.ifCond .eq 13, 3) := by decide +kernel
theorem d_P_deepest_7 : decode prog_1_method_24_code 7 = .ok (.iload_n 2, 1) := by decide +kernel
theorem d_P_deepest_8 : decode prog_1_method_24_code 8 = .ok (.iconst 1, 1) := by decide +kernel
theorem d_P_deepest_9 : decode prog_1_method_24_code 9 = .ok (.bipush 60, 2) := by decide +kernel
theorem d_P_deepest_11 : decode prog_1_method_24_code 11 = .ok (.invokestatic 133, 3) := by decide +kernel
theorem d_P_deepest_14 : decode prog_1_method_24_code 14 = .ok (.ifCond .ne 9, 3) := by decide +kernel
theorem d_P_deepest_17 : decode prog_1_method_24_code 17 = .ok (.aload_n 0, 1) := by decide +kernel
theorem d_P_deepest_18 : decode prog_1_method_24_code 18 = .ok (.iconst 1, 1) := by decide +kernel
theorem d_P_deepest_19 : decode prog_1_method_24_code 19 = .ok (.invokevirtual 66, 3) := by decide +kernel
theorem d_P_deepest_22 : decode prog_1_method_24_code 22 = .ok (.ireturn, 1) := by decide +kernel
theorem d_P_deepest_23 : decode prog_1_method_24_code 23 = .ok (.aload_n 0, 1) := by decide +kernel
theorem d_P_deepest_24 : decode prog_1_method_24_code 24 = .ok (.getfield 10, 3) := by decide +kernel
theorem d_P_deepest_27 : decode prog_1_method_24_code 27 = .ok (.getfield 93, 3) := by decide +kernel
theorem d_P_deepest_30 : decode prog_1_method_24_code 30 = .ok (.getfield 237, 3) := by decide +kernel
theorem d_P_deepest_33 : decode prog_1_method_24_code 33 = .ok (.ifCond .eq 9, 3) := by decide +kernel
theorem d_P_deepest_36 : decode prog_1_method_24_code 36 = .ok (.aload_n 0, 1) := by decide +kernel
theorem d_P_deepest_37 : decode prog_1_method_24_code 37 = .ok (.iconst 3, 1) := by decide +kernel
theorem d_P_deepest_38 : decode prog_1_method_24_code 38 = .ok (.invokevirtual 66, 3) := by decide +kernel
theorem d_P_deepest_41 : decode prog_1_method_24_code 41 = .ok (.ireturn, 1) := by decide +kernel
theorem d_P_deepest_42 : decode prog_1_method_24_code 42 = .ok (.bipush 60, 2) := by decide +kernel
theorem d_P_deepest_44 : decode prog_1_method_24_code 44 = .ok (.istore_n 3, 1) := by decide +kernel
theorem d_P_deepest_45 : decode prog_1_method_24_code 45 = .ok (.iload_n 3, 1) := by decide +kernel
theorem d_P_deepest_46 : decode prog_1_method_24_code 46 = .ok (.iconst 1, 1) := by decide +kernel
theorem d_P_deepest_47 : decode prog_1_method_24_code 47 = .ok (.if_icmp .lt 51, 3) := by decide +kernel
theorem d_P_deepest_50 : decode prog_1_method_24_code 50 = .ok (.aload_n 0, 1) := by decide +kernel
theorem d_P_deepest_51 : decode prog_1_method_24_code 51 = .ok (.getfield 22, 3) := by decide +kernel
theorem d_P_deepest_54 : decode prog_1_method_24_code 54 = .ok (.aload_n 0, 1) := by decide +kernel
theorem d_P_deepest_55 : decode prog_1_method_24_code 55 = .ok (.getfield 10, 3) := by decide +kernel
theorem d_P_deepest_58 : decode prog_1_method_24_code 58 = .ok (.getfield 93, 3) := by decide +kernel
theorem d_P_deepest_61 : decode prog_1_method_24_code 61 = .ok (.invokevirtual 227, 3) := by decide +kernel
theorem d_P_deepest_64 : decode prog_1_method_24_code 64 = .ok (.aload_n 0, 1) := by decide +kernel
theorem d_P_deepest_65 : decode prog_1_method_24_code 65 = .ok (.getfield 22, 3) := by decide +kernel
theorem d_P_deepest_68 : decode prog_1_method_24_code 68 = .ok (.iload_n 3, 1) := by decide +kernel
theorem d_P_deepest_69 : decode prog_1_method_24_code 69 = .ok (.putfield 214, 3) := by decide +kernel
theorem d_P_deepest_72 : decode prog_1_method_24_code 72 = .ok (.aload_n 0, 1) := by decide +kernel
theorem d_P_deepest_73 : decode prog_1_method_24_code 73 = .ok (.getfield 10, 3) := by decide +kernel
theorem d_P_deepest_76 : decode prog_1_method_24_code 76 = .ok (.aload_n 0, 1) := by decide +kernel
theorem d_P_deepest_77 : decode prog_1_method_24_code 77 = .ok (.getfield 22, 3) := by decide +kernel
theorem d_P_deepest_80 : decode prog_1_method_24_code 80 = .ok (.iload_n 1, 1) := by decide +kernel
theorem d_P_deepest_81 : decode prog_1_method_24_code 81 = .ok (.iload_n 2, 1) := by decide +kernel
theorem d_P_deepest_82 : decode prog_1_method_24_code 82 = .ok (.bipush 63, 2) := by decide +kernel
theorem d_P_deepest_84 : decode prog_1_method_24_code 84 = .ok (.invokevirtual 265, 3) := by decide +kernel
theorem d_P_deepest_87 : decode prog_1_method_24_code 87 = .ok (.ifCond .lt 5, 3) := by decide +kernel
theorem d_P_deepest_90 : decode prog_1_method_24_code 90 = .ok (.iload_n 3, 1) := by decide +kernel
theorem d_P_deepest_91 : decode prog_1_method_24_code 91 = .ok (.ireturn, 1) := by decide +kernel
theorem d_P_deepest_92 : decode prog_1_method_24_code 92 = .ok (.iinc 3 (-1), 3) := by decide +kernel
theorem d_P_deepest_95 : decode prog_1_method_24_code 95 = .ok (.goto (-50), 3) := by decide +kernel
theorem d_P_deepest_98 : decode prog_1_method_24_code 98 = .ok (.aload_n 0, 1) := by decide +kernel
theorem d_P_deepest_99 : decode prog_1_method_24_code 99 = .ok (.iconst 2, 1) := by decide +kernel
theorem d_P_deepest_100 : decode prog_1_method_24_code 100 = .ok (.invokevirtual 66, 3) := by decide +kernel
theorem d_P_deepest_103 : decode prog_1_method_24_code 103 = .ok (.ireturn, 1) := by decide +kernel
theorem d_P_strokes_0 : decode prog_1_method_25_code 0 = .ok (.iload_n 1, 1) := by decide +kernel
theorem d_P_strokes_1 : decode prog_1_method_25_code 1 = .ok (.invokestatic 189, 3) := by decide +kernel
theorem d_P_strokes_4 : decode prog_1_method_25_code 4 = .ok (.ifCond .eq 13, 3) := by decide +kernel
theorem d_P_strokes_7 : decode prog_1_method_25_code 7 = .ok (.iload_n 2, 1) := by decide +kernel
theorem d_P_strokes_8 : decode prog_1_method_25_code 8 = .ok (.iconst 1, 1) := by decide +kernel
theorem d_P_strokes_9 : decode prog_1_method_25_code 9 = .ok (.bipush 60, 2) := by decide +kernel
theorem d_P_strokes_11 : decode prog_1_method_25_code 11 = .ok (.invokestatic 133, 3) := by decide +kernel
theorem d_P_strokes_14 : decode prog_1_method_25_code 14 = .ok (.ifCond .ne 9, 3) := by decide +kernel
theorem d_P_strokes_17 : decode prog_1_method_25_code 17 = .ok (.aload_n 0, 1) := by decide +kernel
theorem d_P_strokes_18 : decode prog_1_method_25_code 18 = .ok (.iconst 1, 1) := by decide +kernel
theorem d_P_strokes_19 : decode prog_1_method_25_code 19 = .ok (.invokevirtual 66, 3) := by decide +kernel
theorem d_P_strokes_22 : decode prog_1_method_25_code 22 = .ok (.ireturn, 1) := by decide +kernel
theorem d_P_strokes_23 : decode prog_1_method_25_code 23 = .ok (.aload_n 0, 1) := by decide +kernel
theorem d_P_strokes_24 : decode prog_1_method_25_code 24 = .ok (.getfield 10, 3) := by decide +kernel
theorem d_P_strokes_27 : decode prog_1_method_25_code 27 = .ok (.getfield 93, 3) := by decide +kernel
theorem d_P_strokes_30 : decode prog_1_method_25_code 30 = .ok (.getfield 237, 3) := by decide +kernel
theorem d_P_strokes_33 : decode prog_1_method_25_code 33 = .ok (.ifCond .eq 9, 3) := by decide +kernel
theorem d_P_strokes_36 : decode prog_1_method_25_code 36 = .ok (.aload_n 0, 1) := by decide +kernel
theorem d_P_strokes_37 : decode prog_1_method_25_code 37 = .ok (.iconst 3, 1) := by decide +kernel
theorem d_P_strokes_38 : decode prog_1_method_25_code 38 = .ok (.invokevirtual 66, 3) := by decide +kernel
theorem d_P_strokes_41 : decode prog_1_method_25_code 41 = .ok (.ireturn, 1) := by decide +kernel
theorem d_P_strokes_42 : decode prog_1_method_25_code 42 = .ok (.iconst 0, 1) := by decide +kernel
theorem d_P_strokes_43 : decode prog_1_method_25_code 43 = .ok (.istore_n 3, 1) := by decide +kernel
theorem d_P_strokes_44 : decode prog_1_method_25_code 44 = .ok (.iload_n 3, 1) := by decide +kernel
theorem d_P_strokes_45 : decode prog_1_method_25_code 45 = .ok (.bipush 20, 2) := by decide +kernel
theorem d_P_strokes_47 : decode prog_1_method_25_code 47 = .ok (.if_icmp .gt 51, 3) := by decide +kernel
theorem d_P_strokes_50 : decode prog_1_method_25_code 50 = .ok (.aload_n 0, 1) := by decide +kernel
theorem d_P_strokes_51 : decode prog_1_method_25_code 51 = .ok (.getfield 22, 3) := by decide +kernel
theorem d_P_strokes_54 : decode prog_1_method_25_code 54 = .ok (.aload_n 0, 1) := by decide +kernel
theorem d_P_strokes_55 : decode prog_1_method_25_code 55 = .ok (.getfield 10, 3) := by decide +kernel
theorem d_P_strokes_58 : decode prog_1_method_25_code 58 = .ok (.getfield 93, 3) := by decide +kernel
theorem d_P_strokes_61 : decode prog_1_method_25_code 61 = .ok (.invokevirtual 227, 3) := by decide +kernel
theorem d_P_strokes_64 : decode prog_1_method_25_code 64 = .ok (.aload_n 0, 1) := by decide +kernel
theorem d_P_strokes_65 : decode prog_1_method_25_code 65 = .ok (.getfield 22, 3) := by decide +kernel
theorem d_P_strokes_68 : decode prog_1_method_25_code 68 = .ok (.iload_n 3, 1) := by decide +kernel
theorem d_P_strokes_69 : decode prog_1_method_25_code 69 = .ok (.invokevirtual 211, 3) := by decide +kernel
theorem d_P_strokes_72 : decode prog_1_method_25_code 72 = .ok (.aload_n 0, 1) := by decide +kernel
theorem d_P_strokes_73 : decode prog_1_method_25_code 73 = .ok (.getfield 10, 3) := by decide +kernel
theorem d_P_strokes_76 : decode prog_1_method_25_code 76 = .ok (.aload_n 0, 1) := by decide +kernel
theorem d_P_strokes_77 : decode prog_1_method_25_code 77 = .ok (.getfield 22, 3) := by decide +kernel
theorem d_P_strokes_80 : decode prog_1_method_25_code 80 = .ok (.iload_n 1, 1) := by decide +kernel
theorem d_P_strokes_81 : decode prog_1_method_25_code 81 = .ok (.iload_n 2, 1) := by decide +kernel
theorem d_P_strokes_82 : decode prog_1_method_25_code 82 = .ok (.bipush 63, 2) := by decide +kernel
theorem d_P_strokes_84 : decode prog_1_method_25_code 84 = .ok (.invokevirtual 265, 3) := by decide +kernel
theorem d_P_strokes_87 : decode prog_1_method_25_code 87 = .ok (.ifCond .lt 5, 3) := by decide +kernel
theorem d_P_strokes_90 : decode prog_1_method_25_code 90 = .ok (.iload_n 3, 1) := by decide +kernel
theorem d_P_strokes_91 : decode prog_1_method_25_code 91 = .ok (.ireturn, 1) := by decide +kernel
theorem d_P_strokes_92 : decode prog_1_method_25_code 92 = .ok (.iinc 3 1, 3) := by decide +kernel
theorem d_P_strokes_95 : decode prog_1_method_25_code 95 = .ok (.goto (-51), 3) := by decide +kernel
theorem d_P_strokes_98 : decode prog_1_method_25_code 98 = .ok (.aload_n 0, 1) := by decide +kernel
theorem d_P_strokes_99 : decode prog_1_method_25_code 99 = .ok (.iconst 2, 1) := by decide +kernel
theorem d_P_strokes_100 : decode prog_1_method_25_code 100 = .ok (.invokevirtual 66, 3) := by decide +kernel
theorem d_P_strokes_103 : decode prog_1_method_25_code 103 = .ok (.ireturn, 1) := by decide +kernel
theorem d_P_fits_0 : decode prog_1_method_26_code 0 = .ok (.aload_n 0, 1) := by decide +kernel
theorem d_P_fits_1 : decode prog_1_method_26_code 1 = .ok (.iload_n 1, 1) := by decide +kernel
theorem d_P_fits_2 : decode prog_1_method_26_code 2 = .ok (.invokevirtual 268, 3) := by decide +kernel
theorem d_P_fits_5 : decode prog_1_method_26_code 5 = .ok (.astore_n 3, 1) := by decide +kernel
theorem d_P_fits_6 : decode prog_1_method_26_code 6 = .ok (.aload_n 3, 1) := by decide +kernel
theorem d_P_fits_7 : decode prog_1_method_26_code 7 = .ok (.ifnull 12, 3) := by decide +kernel
theorem d_P_fits_10 : decode prog_1_method_26_code 10 = .ok (.iload_n 2, 1) := by decide +kernel
theorem d_P_fits_11 : decode prog_1_method_26_code 11 = .ok (.iconst (-1), 1) := by decide +kernel
theorem d_P_fits_12 : decode prog_1_method_26_code 12 = .ok (.iconst 2, 1) := by decide +kernel
theorem d_P_fits_13 : decode prog_1_method_26_code 13 = .ok (.invokestatic 133, 3) := by decide +kernel
theorem d_P_fits_16 : decode prog_1_method_26_code 16 = .ok (.ifCond .ne 9, 3) := by decide +kernel
theorem d_P_fits_19 : decode prog_1_method_26_code 19 = .ok (.aload_n 0, 1) := by decide +kernel
theorem d_P_fits_20 : decode prog_1_method_26_code 20 = .ok (.iconst 1, 1) := by decide +kernel
theorem d_P_fits_21 : decode prog_1_method_26_code 21 = .ok (.invokevirtual 66, 3) := by decide +kernel
theorem d_P_fits_24 : decode prog_1_method_26_code 24 = .ok (.ireturn, 1) := by decide +kernel
theorem d_P_fits_25 : decode prog_1_method_26_code 25 = .ok (.aload_n 3, 1) := by decide +kernel
theorem d_P_fits_26 : decode prog_1_method_26_code 26 = .ok (.invokevirtual 272, 3) := by decide +kernel
theorem d_P_fits_29 : decode prog_1_method_26_code 29 = .ok (.ifCond .ne 15, 3) := by decide +kernel
theorem d_P_fits_32 : decode prog_1_method_26_code 32 = .ok (.aload_n 3, 1) := by decide +kernel
theorem d_P_fits_33 : decode prog_1_method_26_code 33 = .ok (.invokevirtual 275, 3) := by decide +kernel
theorem d_P_fits_36 : decode prog_1_method_26_code 36 = .ok (.iconst 1, 1) := by decide +kernel
theorem d_P_fits_37 : decode prog_1_method_26_code 37 = .ok (.iconst 3, 1) := by decide +kernel
theorem d_P_fits_38 : decode prog_1_method_26_code 38 = .ok (.invokestatic 133, 3) := by decide +kernel
theorem d_P_fits_41 : decode prog_1_method_26_code 41 = .ok (.ifCond .ne 9, 3) := by decide +kernel
theorem d_P_fits_44 : decode prog_1_method_26_code 44 = .ok (.aload_n 0, 1) := by decide +kernel
theorem d_P_fits_45 : decode prog_1_method_26_code 45 = .ok (.iconst 2, 1) := by decide +kernel
theorem d_P_fits_46 : decode prog_1_method_26_code 46 = .ok (.invokevirtual 66, 3) := by decide +kernel
theorem d_P_fits_49 : decode prog_1_method_26_code 49 = .ok (.ireturn, 1) := by decide +kernel
theorem d_P_fits_50 : decode prog_1_method_26_code 50 = .ok (.aload_n 0, 1) := by decide +kernel
theorem d_P_fits_51 : decode prog_1_method_26_code 51 = .ok (.getfield 29, 3) := by decide +kernel
theorem d_P_fits_54 : decode prog_1_method_26_code 54 = .ok (.aload_n 0, 1) := by decide +kernel
theorem d_P_fits_55 : decode prog_1_method_26_code 55 = .ok (.getfield 10, 3) := by decide +kernel
theorem d_P_fits_58 : decode prog_1_method_26_code 58 = .ok (.aload_n 3, 1) := by decide +kernel
theorem d_P_fits_59 : decode prog_1_method_26_code 59 = .ok (.invokevirtual 276, 3) := by decide +kernel
theorem d_P_fits_62 : decode prog_1_method_26_code 62 = .ok (.istore 4, 2) := by decide +kernel
theorem d_P_fits_64 : decode prog_1_method_26_code 64 = .ok (.iload_n 2, 1) := by decide +kernel
theorem d_P_fits_65 : decode prog_1_method_26_code 65 = .ok (.iconst (-1), 1) := by decide +kernel
theorem d_P_fits_66 : decode prog_1_method_26_code 66 = .ok (.if_icmp .ne 6, 3) := by decide +kernel
theorem d_P_fits_69 : decode prog_1_method_26_code 69 = .ok (.iload 4, 2) := by decide +kernel
theorem d_P_fits_71 : decode prog_1_method_26_code 71 = .ok (.ireturn, 1) := by decide +kernel
theorem d_P_fits_72 : decode prog_1_method_26_code 72 = .ok (.iload 4, 2) := by decide +kernel
theorem d_P_fits_74 : decode prog_1_method_26_code 74 = .ok (.ifCond .eq 11, 3) := by decide +kernel
theorem d_P_fits_77 : decode prog_1_method_26_code 77 = .ok (.iload_n 2, 1) := by decide +kernel
theorem d_P_fits_78 : decode prog_1_method_26_code 78 = .ok (.aload_n 3, 1) := by decide +kernel
theorem d_P_fits_79 : decode prog_1_method_26_code 79 = .ok (.invokevirtual 275, 3) := by decide +kernel
theorem d_P_fits_82 : decode prog_1_method_26_code 82 = .ok (.if_icmp .lt 11, 3) := by decide +kernel
theorem d_P_fits_85 : decode prog_1_method_26_code 85 = .ok (.aload_n 0, 1) := by decide +kernel
theorem d_P_fits_86 : decode prog_1_method_26_code 86 = .ok (.iconst 2, 1) := by decide +kernel
theorem d_P_fits_87 : decode prog_1_method_26_code 87 = .ok (.invokevirtual 66, 3) := by decide +kernel
theorem d_P_fits_90 : decode prog_1_method_26_code 90 = .ok (.goto 11, 3) := by decide +kernel
theorem d_P_fits_93 : decode prog_1_method_26_code 93 = .ok (.aload_n 0, 1) := by decide +kernel
theorem d_P_fits_94 : decode prog_1_method_26_code 94 = .ok (.getfield 29, 3) := by decide +kernel
theorem d_P_fits_97 : decode prog_1_method_26_code 97 = .ok (.iload_n 2, 1) := by decide +kernel
theorem d_P_fits_98 : decode prog_1_method_26_code 98 = .ok (.invokevirtual 251, 3) := by decide +kernel
theorem d_P_fits_101 : decode prog_1_method_26_code 101 = .ok (.ireturn, 1) := by decide +kernel
theorem d_P_odds_0 : decode prog_1_method_27_code 0 = .ok (.iload_n 1, 1) := by decide +kernel
theorem d_P_odds_1 : decode prog_1_method_27_code 1 = .ok (.iconst 1, 1) := by decide +kernel
theorem d_P_odds_2 : decode prog_1_method_27_code 2 = .ok (.iconst 3, 1) := by decide +kernel
theorem d_P_odds_3 : decode prog_1_method_27_code 3 = .ok (.invokestatic 133, 3) := by decide +kernel
theorem d_P_odds_6 : decode prog_1_method_27_code 6 = .ok (.ifCond .eq 12, 3) := by decide +kernel
theorem d_P_odds_9 : decode prog_1_method_27_code 9 = .ok (.iload_n 2, 1) := by decide +kernel
theorem d_P_odds_10 : decode prog_1_method_27_code 10 = .ok (.iconst 0, 1) := by decide +kernel
theorem d_P_odds_11 : decode prog_1_method_27_code 11 = .ok (.iconst 1, 1) := by decide +kernel
theorem d_P_odds_12 : decode prog_1_method_27_code 12 = .ok (.invokestatic 133, 3) := by decide +kernel
theorem d_P_odds_15 : decode prog_1_method_27_code 15 = .ok (.ifCond .ne 9, 3) := by decide +kernel
theorem d_P_odds_18 : decode prog_1_method_27_code 18 = .ok (.aload_n 0, 1) := by decide +kernel
theorem d_P_odds_19 : decode prog_1_method_27_code 19 = .ok (.iconst 1, 1) := by decide +kernel
theorem d_P_odds_20 : decode prog_1_method_27_code 20 = .ok (.invokevirtual 66, 3) := by decide +kernel
theorem d_P_odds_23 : decode prog_1_method_27_code 23 = .ok (.ireturn, 1) := by decide +kernel
theorem d_P_odds_24 : decode prog_1_method_27_code 24 = .ok (.aload_n 0, 1) := by decide +kernel
theorem d_P_odds_25 : decode prog_1_method_27_code 25 = .ok (.getfield 10, 3) := by decide +kernel
theorem d_P_odds_28 : decode prog_1_method_27_code 28 = .ok (.getfield 93, 3) := by decide +kernel
theorem d_P_odds_31 : decode prog_1_method_27_code 31 = .ok (.getfield 237, 3) := by decide +kernel
theorem d_P_odds_34 : decode prog_1_method_27_code 34 = .ok (.ifCond .eq 9, 3) := by decide +kernel
theorem d_P_odds_37 : decode prog_1_method_27_code 37 = .ok (.aload_n 0, 1) := by decide +kernel
theorem d_P_odds_38 : decode prog_1_method_27_code 38 = .ok (.iconst 3, 1) := by decide +kernel
theorem d_P_odds_39 : decode prog_1_method_27_code 39 = .ok (.invokevirtual 66, 3) := by decide +kernel
theorem d_P_odds_42 : decode prog_1_method_27_code 42 = .ok (.ireturn, 1) := by decide +kernel
theorem d_P_odds_43 : decode prog_1_method_27_code 43 = .ok (.iload_n 1, 1) := by decide +kernel
theorem d_P_odds_44 : decode prog_1_method_27_code 44 = .ok (.invokestatic 280, 3) := by decide +kernel
theorem d_P_odds_47 : decode prog_1_method_27_code 47 = .ok (.istore_n 3, 1) := by decide +kernel
theorem d_P_odds_48 : decode prog_1_method_27_code 48 = .ok (.aload_n 0, 1) := by decide +kernel
theorem d_P_odds_49 : decode prog_1_method_27_code 49 = .ok (.getfield 29, 3) := by decide +kernel
theorem d_P_odds_52 : decode prog_1_method_27_code 52 = .ok (.aload_n 0, 1) := by decide +kernel
theorem d_P_odds_53 : decode prog_1_method_27_code 53 = .ok (.getfield 10, 3) := by decide +kernel
theorem d_P_odds_56 : decode prog_1_method_27_code 56 = .ok (.iload_n 1, 1) := by decide +kernel
theorem d_P_odds_57 : decode prog_1_method_27_code 57 = .ok (.invokevirtual 283, 3) := by decide +kernel
theorem d_P_odds_60 : decode prog_1_method_27_code 60 = .ok (.istore 4, 2) := by decide +kernel
theorem d_P_odds_62 : decode prog_1_method_27_code 62 = .ok (.iload 4, 2) := by decide +kernel
theorem d_P_odds_64 : decode prog_1_method_27_code 64 = .ok (.iload_n 3, 1) := by decide +kernel
theorem d_P_odds_65 : decode prog_1_method_27_code 65 = .ok (.invokestatic 287, 3) := by decide +kernel
theorem d_P_odds_68 : decode prog_1_method_27_code 68 = .ok (.istore 5, 2) := by decide +kernel
theorem d_P_odds_70 : decode prog_1_method_27_code 70 = .ok (.iload 5, 2) := by decide +kernel
theorem d_P_odds_72 : decode prog_1_method_27_code 72 = .ok (.ifCond .ne 5, 3) := by decide +kernel
theorem d_P_odds_75 : decode prog_1_method_27_code 75 = .ok (.iconst 0, 1) := by decide +kernel
theorem d_P_odds_76 : decode prog_1_method_27_code 76 = .ok (.ireturn, 1) := by decide +kernel
theorem d_P_odds_77 : decode prog_1_method_27_code 77 = .ok (.iload_n 2, 1) := by decide +kernel
theorem d_P_odds_78 : decode prog_1_method_27_code 78 = .ok (.ifCond .ne 8, 3) := by decide +kernel
theorem d_P_odds_81 : decode prog_1_method_27_code 81 = .ok (.iload 4, 2) := by decide +kernel
theorem d_P_odds_83 : decode prog_1_method_27_code 83 = .ok (.goto 4, 3) := by decide +kernel
theorem d_P_odds_86 : decode prog_1_method_27_code 86 = .ok (.iload_n 3, 1) := by decide +kernel
theorem d_P_odds_87 : decode prog_1_method_27_code 87 = .ok (.iload 5, 2) := by decide +kernel
theorem d_P_odds_89 : decode prog_1_method_27_code 89 = .ok (.idiv, 1) := by decide +kernel
theorem d_P_odds_90 : decode prog_1_method_27_code 90 = .ok (.ireturn, 1) := by decide +kernel
theorem d_P_voice_0 : decode prog_1_method_28_code 0 = .ok (.aload_n 0, 1) := by decide +kernel
theorem d_P_voice_1 : decode prog_1_method_28_code 1 = .ok (.getfield 10, 3) := by decide +kernel
theorem d_P_voice_4 : decode prog_1_method_28_code 4 = .ok (.getfield 70, 3) := by decide +kernel
theorem d_P_voice_7 : decode prog_1_method_28_code 7 = .ok (.iload_n 1, 1) := by decide +kernel
theorem d_P_voice_8 : decode prog_1_method_28_code 8 = .ok (.invokevirtual 84, 3) := by decide +kernel
theorem d_P_voice_11 : decode prog_1_method_28_code 11 = .ok (.ifCond .eq 10, 3) := by decide +kernel
theorem d_P_voice_14 : decode prog_1_method_28_code 14 = .ok (.iload_n 2, 1) := by decide +kernel
theorem d_P_voice_15 : decode prog_1_method_28_code 15 = .ok (.invokestatic 290, 3) := by decide +kernel
theorem d_P_voice_18 : decode prog_1_method_28_code 18 = .ok (.ifCond .ne 9, 3) := by decide +kernel
theorem d_P_voice_21 : decode prog_1_method_28_code 21 = .ok (.aload_n 0, 1) := by decide +kernel
theorem d_P_voice_22 : decode prog_1_method_28_code 22 = .ok (.iconst 1, 1) := by decide +kernel
theorem d_P_voice_23 : decode prog_1_method_28_code 23 = .ok (.invokevirtual 66, 3) := by decide +kernel
theorem d_P_voice_26 : decode prog_1_method_28_code 26 = .ok (.ireturn, 1) := by decide +kernel
theorem d_P_voice_27 : decode prog_1_method_28_code 27 = .ok (.aload_n 0, 1) := by decide +kernel
theorem d_P_voice_28 : decode prog_1_method_28_code 28 = .ok (.getfield 10, 3) := by decide +kernel
theorem d_P_voice_31 : decode prog_1_method_28_code 31 = .ok (.getfield 70, 3) := by decide +kernel
theorem d_P_voice_34 : decode prog_1_method_28_code 34 = .ok (.iload_n 1, 1) := by decide +kernel
theorem d_P_voice_35 : decode prog_1_method_28_code 35 = .ok (.invokevirtual 87, 3) := by decide +kernel
theorem d_P_voice_38 : decode prog_1_method_28_code 38 = .ok (.istore 4, 2) := by decide +kernel
theorem d_P_voice_40 : decode prog_1_method_28_code 40 = .ok (.aload_n 0, 1) := by decide +kernel
theorem d_P_voice_41 : decode prog_1_method_28_code 41 = .ok (.getfield 43, 3) := by decide +kernel
theorem d_P_voice_44 : decode prog_1_method_28_code 44 = .ok (.iload 4, 2) := by decide +kernel
theorem d_P_voice_46 : decode prog_1_method_28_code 46 = .ok (.iload_n 1, 1) := by decide +kernel
theorem d_P_voice_47 : decode prog_1_method_28_code 47 = .ok (.aload_n 0, 1) := by decide +kernel
theorem d_P_voice_48 : decode prog_1_method_28_code 48 = .ok (.getfield 10, 3) := by decide +kernel
theorem d_P_voice_51 : decode prog_1_method_28_code 51 = .ok (.getfield 70, 3) := by decide +kernel
theorem d_P_voice_54 : decode prog_1_method_28_code 54 = .ok (.iload_n 1, 1) := by decide +kernel
theorem d_P_voice_55 : decode prog_1_method_28_code 55 = .ok (.invokevirtual 90, 3) := by decide +kernel
theorem d_P_voice_58 : decode prog_1_method_28_code 58 = .ok (.iload_n 2, 1) := by decide +kernel
theorem d_P_voice_59 : decode prog_1_method_28_code 59 = .ok (.iload_n 3, 1) := by decide +kernel
theorem d_P_voice_60 : decode prog_1_method_28_code 60 = .ok (.invokevirtual 293, 3) := by decide +kernel
theorem d_P_voice_63 : decode prog_1_method_28_code 63 = .ok (.ifCond .ne 10, 3) := by decide +kernel
theorem d_P_voice_66 : decode prog_1_method_28_code 66 = .ok (.aload_n 0, 1) := by decide +kernel
theorem d_P_voice_67 : decode prog_1_method_28_code 67 = .ok (.bipush 6, 2) := by decide +kernel
theorem d_P_voice_69 : decode prog_1_method_28_code 69 = .ok (.invokevirtual 66, 3) := by decide +kernel
theorem d_P_voice_72 : decode prog_1_method_28_code 72 = .ok (.ireturn, 1) := by decide +kernel
theorem d_P_voice_73 : decode prog_1_method_28_code 73 = .ok (.aload_n 0, 1) := by decide +kernel
theorem d_P_voice_74 : decode prog_1_method_28_code 74 = .ok (.getfield 43, 3) := by decide +kernel
theorem d_P_voice_77 : decode prog_1_method_28_code 77 = .ok (.invokevirtual 297, 3) := by decide +kernel
theorem d_P_voice_80 : decode prog_1_method_28_code 80 = .ok (.ireturn, 1) := by decide +kernel
theorem d_P_body_0 : decode prog_1_method_29_code 0 = .ok (.aload_n 0, 1) := by decide +kernel
theorem d_P_body_1 : decode prog_1_method_29_code 1 = .ok (.getfield 43, 3) := by decide +kernel
theorem d_P_body_4 : decode prog_1_method_29_code 4 = .ok (.invokevirtual 300, 3) := by decide +kernel
theorem d_P_body_7 : decode prog_1_method_29_code 7 = .ok (.iload_n 1, 1) := by decide +kernel
theorem d_P_body_8 : decode prog_1_method_29_code 8 = .ok (.invokevirtual 303, 3) := by decide +kernel
theorem d_P_body_11 : decode prog_1_method_29_code 11 = .ok (.ifCond .ne 9, 3) := by decide +kernel
theorem d_P_body_14 : decode prog_1_method_29_code 14 = .ok (.aload_n 0, 1) := by decide +kernel
theorem d_P_body_15 : decode prog_1_method_29_code 15 = .ok (.iconst 2, 1) := by decide +kernel
theorem d_P_body_16 : decode prog_1_method_29_code 16 = .ok (.invokevirtual 66, 3) := by decide +kernel
theorem d_P_body_19 : decode prog_1_method_29_code 19 = .ok (.ireturn, 1) := by decide +kernel
theorem d_P_body_20 : decode prog_1_method_29_code 20 = .ok (.aload_n 0, 1) := by decide +kernel
theorem d_P_body_21 : decode prog_1_method_29_code 21 = .ok (.getfield 43, 3) := by decide +kernel
theorem d_P_body_24 : decode prog_1_method_29_code 24 = .ok (.invokevirtual 300, 3) := by decide +kernel
theorem d_P_body_27 : decode prog_1_method_29_code 27 = .ok (.iload_n 1, 1) := by decide +kernel
theorem d_P_body_28 : decode prog_1_method_29_code 28 = .ok (.invokevirtual 304, 3) := by decide +kernel
theorem d_P_body_31 : decode prog_1_method_29_code 31 = .ok (.ireturn, 1) := by decide +kernel
theorem d_P_sheet_0 : decode prog_1_method_30_code 0 = .ok (.aload_n 0, 1) := by decide +kernel
theorem d_P_sheet_1 : decode prog_1_method_30_code 1 = .ok (.iload_n 1, 1) := by decide +kernel
theorem d_P_sheet_2 : decode prog_1_method_30_code 2 = .ok (.invokevirtual 268, 3) := by decide +kernel
theorem d_P_sheet_5 : decode prog_1_method_30_code 5 = .ok (.astore 4, 2) := by decide +kernel
theorem d_P_sheet_7 : decode prog_1_method_30_code 7 = .ok (.aload 4, 2) := by decide +kernel
theorem d_P_sheet_9 : decode prog_1_method_30_code 9 = .ok (.ifnull 10, 3) := by decide +kernel
theorem d_P_sheet_12 : decode prog_1_method_30_code 12 = .ok (.iload_n 2, 1) := by decide +kernel
theorem d_P_sheet_13 : decode prog_1_method_30_code 13 = .ok (.invokestatic 307, 3) := by decide +kernel
theorem d_P_sheet_16 : decode prog_1_method_30_code 16 = .ok (.ifCond .ne 9, 3) := by decide +kernel
theorem d_P_sheet_19 : decode prog_1_method_30_code 19 = .ok (.aload_n 0, 1) := by decide +kernel
theorem d_P_sheet_20 : decode prog_1_method_30_code 20 = .ok (.iconst 1, 1) := by decide +kernel
theorem d_P_sheet_21 : decode prog_1_method_30_code 21 = .ok (.invokevirtual 66, 3) := by decide +kernel
theorem d_P_sheet_24 : decode prog_1_method_30_code 24 = .ok (.ireturn, 1) := by decide +kernel
theorem d_P_sheet_25 : decode prog_1_method_30_code 25 = .ok (.iload_n 2, 1) := by decide +kernel
theorem d_P_sheet_26 : decode prog_1_method_30_code 26 = .ok (.ifCond .ne 10, 3) := by decide +kernel
theorem d_P_sheet_29 : decode prog_1_method_30_code 29 = .ok (.aload 4, 2) := by decide +kernel
theorem d_P_sheet_31 : decode prog_1_method_30_code 31 = .ok (.invokevirtual 310, 3) := by decide +kernel
theorem d_P_sheet_34 : decode prog_1_method_30_code 34 = .ok (.iconst 1, 1) := by decide +kernel
theorem d_P_sheet_35 : decode prog_1_method_30_code 35 = .ok (.ireturn, 1) := by decide +kernel
theorem d_P_sheet_36 : decode prog_1_method_30_code 36 = .ok (.iload_n 3, 1) := by decide +kernel
theorem d_P_sheet_37 : decode prog_1_method_30_code 37 = .ok (.ifCond .ge 9, 3) := by decide +kernel
theorem d_P_sheet_40 : decode prog_1_method_30_code 40 = .ok (.aload_n 0, 1) := by decide +kernel
theorem d_P_sheet_41 : decode prog_1_method_30_code 41 = .ok (.iconst 3, 1) := by decide +kernel
theorem d_P_sheet_42 : decode prog_1_method_30_code 42 = .ok (.invokevirtual 66, 3) := by decide +kernel
theorem d_P_sheet_45 : decode prog_1_method_30_code 45 = .ok (.ireturn, 1) := by decide +kernel
theorem d_P_sheet_46 : decode prog_1_method_30_code 46 = .ok (.iload_n 3, 1) := by decide +kernel
theorem d_P_sheet_47 : decode prog_1_method_30_code 47 = .ok (.bipush 24, 2) := by decide +kernel
theorem d_P_sheet_49 : decode prog_1_method_30_code 49 = .ok (.if_icmp .le 9, 3) := by decide +kernel
theorem d_P_sheet_52 : decode prog_1_method_30_code 52 = .ok (.aload_n 0, 1) := by decide +kernel
theorem d_P_sheet_53 : decode prog_1_method_30_code 53 = .ok (.iconst 1, 1) := by decide +kernel
theorem d_P_sheet_54 : decode prog_1_method_30_code 54 = .ok (.invokevirtual 66, 3) := by decide +kernel
theorem d_P_sheet_57 : decode prog_1_method_30_code 57 = .ok (.ireturn, 1) := by decide +kernel
theorem d_P_sheet_58 : decode prog_1_method_30_code 58 = .ok (.aload 4, 2) := by decide +kernel
theorem d_P_sheet_60 : decode prog_1_method_30_code 60 = .ok (.iload_n 2, 1) := by decide +kernel
theorem d_P_sheet_61 : decode prog_1_method_30_code 61 = .ok (.iload_n 3, 1) := by decide +kernel
theorem d_P_sheet_62 : decode prog_1_method_30_code 62 = .ok (.invokevirtual 313, 3) := by decide +kernel
theorem d_P_sheet_65 : decode prog_1_method_30_code 65 = .ok (.iconst 1, 1) := by decide +kernel
theorem d_P_sheet_66 : decode prog_1_method_30_code 66 = .ok (.ireturn, 1) := by decide +kernel
theorem d_P_put_0 : decode prog_1_method_31_code 0 = .ok (.aload_n 0, 1) := by decide +kernel
theorem d_P_put_1 : decode prog_1_method_31_code 1 = .ok (.iload_n 1, 1) := by decide +kernel
theorem d_P_put_2 : decode prog_1_method_31_code 2 = .ok (.invokevirtual 268, 3) := by decide +kernel
theorem d_P_put_5 : decode prog_1_method_31_code 5 = .ok (.astore 4, 2) := by decide +kernel
theorem d_P_put_7 : decode prog_1_method_31_code 7 = .ok (.aload 4, 2) := by decide +kernel
theorem d_P_put_9 : decode prog_1_method_31_code 9 = .ok (.ifnonnull 9, 3) := by decide +kernel
theorem d_P_put_12 : decode prog_1_method_31_code 12 = .ok (.aload_n 0, 1) := by decide +kernel
theorem d_P_put_13 : decode prog_1_method_31_code 13 = .ok (.iconst 1, 1) := by decide +kernel
theorem d_P_put_14 : decode prog_1_method_31_code 14 = .ok (.invokevirtual 66, 3) := by decide +kernel
theorem d_P_put_17 : decode prog_1_method_31_code 17 = .ok (.ireturn, 1) := by decide +kernel
theorem d_P_put_18 : decode prog_1_method_31_code 18 = .ok (.aload 4, 2) := by decide +kernel
theorem d_P_put_20 : decode prog_1_method_31_code 20 = .ok (.invokevirtual 272, 3) := by decide +kernel
theorem d_P_put_23 : decode prog_1_method_31_code 23 = .ok (.ifCond .eq 9, 3) := by decide +kernel
theorem d_P_put_26 : decode prog_1_method_31_code 26 = .ok (.aload_n 0, 1) := by decide +kernel
theorem d_P_put_27 : decode prog_1_method_31_code 27 = .ok (.iconst 2, 1) := by decide +kernel
theorem d_P_put_28 : decode prog_1_method_31_code 28 = .ok (.invokevirtual 66, 3) := by decide +kernel
theorem d_P_put_31 : decode prog_1_method_31_code 31 = .ok (.ireturn, 1) := by decide +kernel
theorem d_P_put_32 : decode prog_1_method_31_code 32 = .ok (.aload 4, 2) := by decide +kernel
theorem d_P_put_34 : decode prog_1_method_31_code 34 = .ok (.iload_n 2, 1) := by decide +kernel
theorem d_P_put_35 : decode prog_1_method_31_code 35 = .ok (.iconst 1, 1) := by decide +kernel
theorem d_P_put_36 : decode prog_1_method_31_code 36 = .ok (.invokevirtual 316, 3) := by decide +kernel
theorem d_P_put_39 : decode prog_1_method_31_code 39 = .ok (.ifCond .ne 9, 3) := by decide +kernel
theorem d_P_put_42 : decode prog_1_method_31_code 42 = .ok (.aload_n 0, 1) := by decide +kernel
theorem d_P_put_43 : decode prog_1_method_31_code 43 = .ok (.iconst 1, 1) := by decide +kernel
theorem d_P_put_44 : decode prog_1_method_31_code 44 = .ok (.invokevirtual 66, 3) := by decide +kernel
theorem d_P_put_47 : decode prog_1_method_31_code 47 = .ok (.ireturn, 1) := by decide +kernel
theorem d_P_put_48 : decode prog_1_method_31_code 48 = .ok (.aload 4, 2) := by decide +kernel
theorem d_P_put_50 : decode prog_1_method_31_code 50 = .ok (.iload_n 2, 1) := by decide +kernel
theorem d_P_put_51 : decode prog_1_method_31_code 51 = .ok (.iload_n 3, 1) := by decide +kernel
theorem d_P_put_52 : decode prog_1_method_31_code 52 = .ok (.invokevirtual 319, 3) := by decide +kernel
theorem d_P_put_55 : decode prog_1_method_31_code 55 = .ok (.iconst 1, 1) := by decide +kernel
theorem d_P_put_56 : decode prog_1_method_31_code 56 = .ok (.ireturn, 1) := by decide +kernel
theorem d_P_move_0 : decode prog_1_method_32_code 0 = .ok (.aload_n 0, 1) := by decide +kernel
theorem d_P_move_1 : decode prog_1_method_32_code 1 = .ok (.iload_n 1, 1) := by decide +kernel
theorem d_P_move_2 : decode prog_1_method_32_code 2 = .ok (.invokevirtual 268, 3) := by decide +kernel
theorem d_P_move_5 : decode prog_1_method_32_code 5 = .ok (.astore 6, 2) := by decide +kernel
theorem d_P_move_7 : decode prog_1_method_32_code 7 = .ok (.aload_n 0, 1) := by decide +kernel
theorem d_P_move_8 : decode prog_1_method_32_code 8 = .ok (.iload_n 3, 1) := by decide +kernel
theorem d_P_move_9 : decode prog_1_method_32_code 9 = .ok (.invokevirtual 268, 3) := by decide +kernel
theorem d_P_move_12 : decode prog_1_method_32_code 12 = .ok (.astore 7, 2) := by decide +kernel
theorem d_P_move_14 : decode prog_1_method_32_code 14 = .ok (.aload 6, 2) := by decide +kernel
theorem d_P_move_16 : decode prog_1_method_32_code 16 = .ok (.ifnull 8, 3) := by decide +kernel
theorem d_P_move_19 : decode prog_1_method_32_code 19 = .ok (.aload 7, 2) := by decide +kernel
theorem d_P_move_21 : decode prog_1_method_32_code 21 = .ok (.ifnonnull 9, 3) := by decide +kernel
theorem d_P_move_24 : decode prog_1_method_32_code 24 = .ok (.aload_n 0, 1) := by decide +kernel
theorem d_P_move_25 : decode prog_1_method_32_code 25 = .ok (.iconst 1, 1) := by decide +kernel
theorem d_P_move_26 : decode prog_1_method_32_code 26 = .ok (.invokevirtual 66, 3) := by decide +kernel
theorem d_P_move_29 : decode prog_1_method_32_code 29 = .ok (.ireturn, 1) := by decide +kernel
theorem d_P_move_30 : decode prog_1_method_32_code 30 = .ok (.aload 6, 2) := by decide +kernel
theorem d_P_move_32 : decode prog_1_method_32_code 32 = .ok (.invokevirtual 272, 3) := by decide +kernel
theorem d_P_move_35 : decode prog_1_method_32_code 35 = .ok (.ifCond .ne 11, 3) := by decide +kernel
theorem d_P_move_38 : decode prog_1_method_32_code 38 = .ok (.aload 7, 2) := by decide +kernel
theorem d_P_move_40 : decode prog_1_method_32_code 40 = .ok (.invokevirtual 272, 3) := by decide +kernel
theorem d_P_move_43 : decode prog_1_method_32_code 43 = .ok (.ifCond .eq 9, 3) := by decide +kernel
theorem d_P_move_46 : decode prog_1_method_32_code 46 = .ok (.aload_n 0, 1) := by decide +kernel
theorem d_P_move_47 : decode prog_1_method_32_code 47 = .ok (.iconst 2, 1) := by decide +kernel
theorem d_P_move_48 : decode prog_1_method_32_code 48 = .ok (.invokevirtual 66, 3) := by decide +kernel
theorem d_P_move_51 : decode prog_1_method_32_code 51 = .ok (.ireturn, 1) := by decide +kernel
theorem d_P_move_52 : decode prog_1_method_32_code 52 = .ok (.aload 6, 2) := by decide +kernel
theorem d_P_move_54 : decode prog_1_method_32_code 54 = .ok (.invokevirtual 322, 3) := by decide +kernel
theorem d_P_move_57 : decode prog_1_method_32_code 57 = .ok (.aload 7, 2) := by decide +kernel
theorem d_P_move_59 : decode prog_1_method_32_code 59 = .ok (.invokevirtual 322, 3) := by decide +kernel
theorem d_P_move_62 : decode prog_1_method_32_code 62 = .ok (.if_icmp .eq 9, 3) := by decide +kernel
theorem d_P_move_65 : decode prog_1_method_32_code 65 = .ok (.aload_n 0, 1) := by decide +kernel
theorem d_P_move_66 : decode prog_1_method_32_code 66 = .ok (.iconst 5, 1) := by decide +kernel
theorem d_P_move_67 : decode prog_1_method_32_code 67 = .ok (.invokevirtual 66, 3) := by decide +kernel
theorem d_P_move_70 : decode prog_1_method_32_code 70 = .ok (.ireturn, 1) := by decide +kernel
theorem d_P_move_71 : decode prog_1_method_32_code 71 = .ok (.aload 6, 2) := by decide +kernel
theorem d_P_move_73 : decode prog_1_method_32_code 73 = .ok (.iload_n 2, 1) := by decide +kernel
theorem d_P_move_74 : decode prog_1_method_32_code 74 = .ok (.iload 5, 2) := by decide +kernel
theorem d_P_move_76 : decode prog_1_method_32_code 76 = .ok (.invokevirtual 316, 3) := by decide +kernel
theorem d_P_move_79 : decode prog_1_method_32_code 79 = .ok (.ifCond .eq 15, 3) := by decide +kernel
theorem d_P_move_82 : decode prog_1_method_32_code 82 = .ok (.aload 7, 2) := by decide +kernel
theorem d_P_move_84 : decode prog_1_method_32_code 84 = .ok (.iload 4, 2) := by decide +kernel
theorem d_P_move_86 : decode prog_1_method_32_code 86 = .ok (.iload 5, 2) := by decide +kernel
theorem d_P_move_88 : decode prog_1_method_32_code 88 = .ok (.invokevirtual 316, 3) := by decide +kernel
theorem d_P_move_91 : decode prog_1_method_32_code 91 = .ok (.ifCond .ne 9, 3) := by decide +kernel
theorem d_P_move_94 : decode prog_1_method_32_code 94 = .ok (.aload_n 0, 1) := by decide +kernel
theorem d_P_move_95 : decode prog_1_method_32_code 95 = .ok (.iconst 1, 1) := by decide +kernel
theorem d_P_move_96 : decode prog_1_method_32_code 96 = .ok (.invokevirtual 66, 3) := by decide +kernel
theorem d_P_move_99 : decode prog_1_method_32_code 99 = .ok (.ireturn, 1) := by decide +kernel
theorem d_P_move_100 : decode prog_1_method_32_code 100 = .ok (.aload 7, 2) := by decide +kernel
theorem d_P_move_102 : decode prog_1_method_32_code 102 = .ok (.iload 4, 2) := by decide +kernel
theorem d_P_move_104 : decode prog_1_method_32_code 104 = .ok (.aload 6, 2) := by decide +kernel
theorem d_P_move_106 : decode prog_1_method_32_code 106 = .ok (.iload_n 2, 1) := by decide +kernel
theorem d_P_move_107 : decode prog_1_method_32_code 107 = .ok (.iload 5, 2) := by decide +kernel
theorem d_P_move_109 : decode prog_1_method_32_code 109 = .ok (.invokevirtual 325, 3) := by decide +kernel
theorem d_P_move_112 : decode prog_1_method_32_code 112 = .ok (.iload 5, 2) := by decide +kernel
theorem d_P_move_114 : decode prog_1_method_32_code 114 = .ok (.ireturn, 1) := by decide +kernel
theorem d_P_levels_0 : decode prog_1_method_33_code 0 = .ok (.aload_n 0, 1) := by decide +kernel
theorem d_P_levels_1 : decode prog_1_method_33_code 1 = .ok (.iload_n 1, 1) := by decide +kernel
theorem d_P_levels_2 : decode prog_1_method_33_code 2 = .ok (.invokevirtual 268, 3) := by decide +kernel
theorem d_P_levels_5 : decode prog_1_method_33_code 5 = .ok (.astore_n 2, 1) := by decide +kernel
theorem d_P_levels_6 : decode prog_1_method_33_code 6 = .ok (.aload_n 2, 1) := by decide +kernel
theorem d_P_levels_7 : decode prog_1_method_33_code 7 = .ok (.ifnonnull 9, 3) := by decide +kernel
theorem d_P_levels_10 : decode prog_1_method_33_code 10 = .ok (.aload_n 0, 1) := by decide +kernel
theorem d_P_levels_11 : decode prog_1_method_33_code 11 = .ok (.iconst 1, 1) := by decide +kernel
theorem d_P_levels_12 : decode prog_1_method_33_code 12 = .ok (.invokevirtual 66, 3) := by decide +kernel
theorem d_P_levels_15 : decode prog_1_method_33_code 15 = .ok (.ireturn, 1) := by decide +kernel
theorem d_P_levels_16 : decode prog_1_method_33_code 16 = .ok (.aload_n 2, 1) := by decide +kernel
theorem d_P_levels_17 : decode prog_1_method_33_code 17 = .ok (.invokevirtual 272, 3) := by decide +kernel
theorem d_P_levels_20 : decode prog_1_method_33_code 20 = .ok (.ifCond .eq 9, 3) := by decide +kernel
theorem d_P_levels_23 : decode prog_1_method_33_code 23 = .ok (.aload_n 0, 1) := by decide +kernel
theorem d_P_levels_24 : decode prog_1_method_33_code 24 = .ok (.iconst 2, 1) := by decide +kernel
theorem d_P_levels_25 : decode prog_1_method_33_code 25 = .ok (.invokevirtual 66, 3) := by decide +kernel
theorem d_P_levels_28 : decode prog_1_method_33_code 28 = .ok (.ireturn, 1) := by decide +kernel
theorem d_P_levels_29 : decode prog_1_method_33_code 29 = .ok (.aload_n 2, 1) := by decide +kernel
theorem d_P_levels_30 : decode prog_1_method_33_code 30 = .ok (.invokevirtual 275, 3) := by decide +kernel
theorem d_P_levels_33 : decode prog_1_method_33_code 33 = .ok (.aload_n 0, 1) := by decide +kernel
theorem d_P_levels_34 : decode prog_1_method_33_code 34 = .ok (.getfield 10, 3) := by decide +kernel
theorem d_P_levels_37 : decode prog_1_method_33_code 37 = .ok (.getfield 70, 3) := by decide +kernel
theorem d_P_levels_40 : decode prog_1_method_33_code 40 = .ok (.invokevirtual 116, 3) := by decide +kernel
theorem d_P_levels_43 : decode prog_1_method_33_code 43 = .ok (.invokestatic 328, 3) := by decide +kernel
theorem d_P_levels_46 : decode prog_1_method_33_code 46 = .ok (.istore_n 3, 1) := by decide +kernel
theorem d_P_levels_47 : decode prog_1_method_33_code 47 = .ok (.iconst 0, 1) := by decide +kernel
theorem d_P_levels_48 : decode prog_1_method_33_code 48 = .ok (.istore 4, 2) := by decide +kernel
theorem d_P_levels_50 : decode prog_1_method_33_code 50 = .ok (.iload 4, 2) := by decide +kernel
theorem d_P_levels_52 : decode prog_1_method_33_code 52 = .ok (.iload_n 3, 1) := by decide +kernel
theorem d_P_levels_53 : decode prog_1_method_33_code 53 = .ok (.if_icmp .ge 57, 3) := by decide +kernel
theorem d_P_levels_56 : decode prog_1_method_33_code 56 = .ok (.aload_n 2, 1) := by decide +kernel
theorem d_P_levels_57 : decode prog_1_method_33_code 57 = .ok (.iload 4, 2) := by decide +kernel
theorem d_P_levels_59 : decode prog_1_method_33_code 59 = .ok (.invokevirtual 333, 3) := by decide +kernel
theorem d_P_levels_62 : decode prog_1_method_33_code 62 = .ok (.istore 5, 2) := by decide +kernel
theorem d_P_levels_64 : decode prog_1_method_33_code 64 = .ok (.iload 5, 2) := by decide +kernel
theorem d_P_levels_66 : decode prog_1_method_33_code 66 = .ok (.iconst 0, 1) := by decide +kernel
theorem d_P_levels_67 : decode prog_1_method_33_code 67 = .ok (.bipush 9, 2) := by decide +kernel
theorem d_P_levels_69 : decode prog_1_method_33_code 69 = .ok (.invokestatic 133, 3) := by decide +kernel
theorem d_P_levels_72 : decode prog_1_method_33_code 72 = .ok (.ifCond .ne 6, 3) := by decide +kernel
theorem d_P_levels_75 : decode prog_1_method_33_code 75 = .ok (.iload 4, 2) := by decide +kernel
theorem d_P_levels_77 : decode prog_1_method_33_code 77 = .ok (.ireturn, 1) := by decide +kernel
theorem d_P_levels_78 : decode prog_1_method_33_code 78 = .ok (.aload_n 0, 1) := by decide +kernel
theorem d_P_levels_79 : decode prog_1_method_33_code 79 = .ok (.getfield 10, 3) := by decide +kernel
theorem d_P_levels_82 : decode prog_1_method_33_code 82 = .ok (.getfield 70, 3) := by decide +kernel
theorem d_P_levels_85 : decode prog_1_method_33_code 85 = .ok (.iload 4, 2) := by decide +kernel
theorem d_P_levels_87 : decode prog_1_method_33_code 87 = .ok (.aload_n 0, 1) := by decide +kernel
theorem d_P_levels_88 : decode prog_1_method_33_code 88 = .ok (.getfield 10, 3) := by decide +kernel
theorem d_P_levels_91 : decode prog_1_method_33_code 91 = .ok (.getfield 70, 3) := by decide +kernel
theorem d_P_levels_94 : decode prog_1_method_33_code 94 = .ok (.iload 4, 2) := by decide +kernel
theorem d_P_levels_96 : decode prog_1_method_33_code 96 = .ok (.invokevirtual 87, 3) := by decide +kernel
theorem d_P_levels_99 : decode prog_1_method_33_code 99 = .ok (.iload 5, 2) := by decide +kernel
theorem d_P_levels_101 : decode prog_1_method_33_code 101 = .ok (.invokevirtual 103, 3) := by decide +kernel
theorem d_P_levels_104 : decode prog_1_method_33_code 104 = .ok (.iinc 4 1, 3) := by decide +kernel
theorem d_P_levels_107 : decode prog_1_method_33_code 107 = .ok (.goto (-57), 3) := by decide +kernel
theorem d_P_levels_110 : decode prog_1_method_33_code 110 = .ok (.iload_n 3, 1) := by decide +kernel
theorem d_P_levels_111 : decode prog_1_method_33_code 111 = .ok (.ireturn, 1) := by decide +kernel
theorem d_P_judge_0 : decode prog_1_method_34_code 0 = .ok (.aload_n 0, 1) := by decide +kernel
theorem d_P_judge_1 : decode prog_1_method_34_code 1 = .ok (.iload_n 1, 1) := by decide +kernel
theorem d_P_judge_2 : decode prog_1_method_34_code 2 = .ok (.invokevirtual 268, 3) := by decide +kernel
theorem d_P_judge_5 : decode prog_1_method_34_code 5 = .ok (.astore_n 2, 1) := by decide +kernel
theorem d_P_judge_6 : decode prog_1_method_34_code 6 = .ok (.aload_n 2, 1) := by decide +kernel
theorem d_P_judge_7 : decode prog_1_method_34_code 7 = .ok (.ifnonnull 9, 3) := by decide +kernel
theorem d_P_judge_10 : decode prog_1_method_34_code 10 = .ok (.aload_n 0, 1) := by decide +kernel
theorem d_P_judge_11 : decode prog_1_method_34_code 11 = .ok (.iconst 1, 1) := by decide +kernel
theorem d_P_judge_12 : decode prog_1_method_34_code 12 = .ok (.invokevirtual 66, 3) := by decide +kernel
theorem d_P_judge_15 : decode prog_1_method_34_code 15 = .ok (.ireturn, 1) := by decide +kernel
theorem d_P_judge_16 : decode prog_1_method_34_code 16 = .ok (.aload_n 2, 1) := by decide +kernel
theorem d_P_judge_17 : decode prog_1_method_34_code 17 = .ok (.invokevirtual 272, 3) := by decide +kernel
theorem d_P_judge_20 : decode prog_1_method_34_code 20 = .ok (.ifCond .eq 9, 3) := by decide +kernel
theorem d_P_judge_23 : decode prog_1_method_34_code 23 = .ok (.aload_n 0, 1) := by decide +kernel
theorem d_P_judge_24 : decode prog_1_method_34_code 24 = .ok (.iconst 2, 1) := by decide +kernel
theorem d_P_judge_25 : decode prog_1_method_34_code 25 = .ok (.invokevirtual 66, 3) := by decide +kernel
theorem d_P_judge_28 : decode prog_1_method_34_code 28 = .ok (.ireturn, 1) := by decide +kernel
theorem d_P_judge_29 : decode prog_1_method_34_code 29 = .ok (.aload_n 0, 1) := by decide +kernel
theorem d_P_judge_30 : decode prog_1_method_34_code 30 = .ok (.getfield 22, 3) := by decide +kernel
theorem d_P_judge_33 : decode prog_1_method_34_code 33 = .ok (.aload_n 0, 1) := by decide +kernel
theorem d_P_judge_34 : decode prog_1_method_34_code 34 = .ok (.getfield 10, 3) := by decide +kernel
theorem d_P_judge_37 : decode prog_1_method_34_code 37 = .ok (.getfield 93, 3) := by decide +kernel
theorem d_P_judge_40 : decode prog_1_method_34_code 40 = .ok (.invokevirtual 227, 3) := by decide +kernel
theorem d_P_judge_43 : decode prog_1_method_34_code 43 = .ok (.aload_n 0, 1) := by decide +kernel
theorem d_P_judge_44 : decode prog_1_method_34_code 44 = .ok (.getfield 10, 3) := by decide +kernel
theorem d_P_judge_47 : decode prog_1_method_34_code 47 = .ok (.getfield 202, 3) := by decide +kernel
theorem d_P_judge_50 : decode prog_1_method_34_code 50 = .ok (.istore_n 3, 1) := by decide +kernel
theorem d_P_judge_51 : decode prog_1_method_34_code 51 = .ok (.iconst 0, 1) := by decide +kernel
theorem d_P_judge_52 : decode prog_1_method_34_code 52 = .ok (.istore 4, 2) := by decide +kernel
theorem d_P_judge_54 : decode prog_1_method_34_code 54 = .ok (.iload 4, 2) := by decide +kernel
theorem d_P_judge_56 : decode prog_1_method_34_code 56 = .ok (.aload_n 2, 1) := by decide +kernel
theorem d_P_judge_57 : decode prog_1_method_34_code 57 = .ok (.invokevirtual 275, 3) := by decide +kernel
theorem d_P_judge_60 : decode prog_1_method_34_code 60 = .ok (.if_icmp .ge 61, 3) := by decide +kernel
theorem d_P_judge_63 : decode prog_1_method_34_code 63 = .ok (.aload_n 0, 1) := by decide +kernel
theorem d_P_judge_64 : decode prog_1_method_34_code 64 = .ok (.getfield 22, 3) := by decide +kernel
theorem d_P_judge_67 : decode prog_1_method_34_code 67 = .ok (.getfield 237, 3) := by decide +kernel
theorem d_P_judge_70 : decode prog_1_method_34_code 70 = .ok (.ifCond .ne 51, 3) := by decide +kernel
theorem d_P_judge_73 : decode prog_1_method_34_code 73 = .ok (.iload_n 3, 1) := by decide +kernel
theorem d_P_judge_74 : decode prog_1_method_34_code 74 = .ok (.invokestatic 205, 3) := by decide +kernel
theorem d_P_judge_77 : decode prog_1_method_34_code 77 = .ok (.istore_n 3, 1) := by decide +kernel
theorem d_P_judge_78 : decode prog_1_method_34_code 78 = .ok (.aload_n 0, 1) := by decide +kernel
theorem d_P_judge_79 : decode prog_1_method_34_code 79 = .ok (.getfield 10, 3) := by decide +kernel
theorem d_P_judge_82 : decode prog_1_method_34_code 82 = .ok (.aload_n 0, 1) := by decide +kernel
theorem d_P_judge_83 : decode prog_1_method_34_code 83 = .ok (.getfield 22, 3) := by decide +kernel
theorem d_P_judge_86 : decode prog_1_method_34_code 86 = .ok (.iload_n 3, 1) := by decide +kernel
theorem d_P_judge_87 : decode prog_1_method_34_code 87 = .ok (.invokestatic 208, 3) := by decide +kernel
theorem d_P_judge_90 : decode prog_1_method_34_code 90 = .ok (.bipush 63, 2) := by decide +kernel
theorem d_P_judge_92 : decode prog_1_method_34_code 92 = .ok (.invokevirtual 195, 3) := by decide +kernel
theorem d_P_judge_95 : decode prog_1_method_34_code 95 = .ok (.pop, 1) := by decide +kernel
theorem d_P_judge_96 : decode prog_1_method_34_code 96 = .ok (.aload_n 0, 1) := by decide +kernel
theorem d_P_judge_97 : decode prog_1_method_34_code 97 = .ok (.getfield 22, 3) := by decide +kernel
theorem d_P_judge_100 : decode prog_1_method_34_code 100 = .ok (.getfield 199, 3) := by decide +kernel
theorem d_P_judge_103 : decode prog_1_method_34_code 103 = .ok (.aload_n 2, 1) := by decide +kernel
theorem d_P_judge_104 : decode prog_1_method_34_code 104 = .ok (.iload 4, 2) := by decide +kernel
theorem d_P_judge_106 : decode prog_1_method_34_code 106 = .ok (.invokevirtual 333, 3) := by decide +kernel
theorem d_P_judge_109 : decode prog_1_method_34_code 109 = .ok (.if_icmp .eq 6, 3) := by decide +kernel
theorem d_P_judge_112 : decode prog_1_method_34_code 112 = .ok (.iload 4, 2) := by decide +kernel
theorem d_P_judge_114 : decode prog_1_method_34_code 114 = .ok (.ireturn, 1) := by decide +kernel
theorem d_P_judge_115 : decode prog_1_method_34_code 115 = .ok (.iinc 4 1, 3) := by decide +kernel
theorem d_P_judge_118 : decode prog_1_method_34_code 118 = .ok (.goto (-64), 3) := by decide +kernel
theorem d_P_judge_121 : decode prog_1_method_34_code 121 = .ok (.iload 4, 2) := by decide +kernel
theorem d_P_judge_123 : decode prog_1_method_34_code 123 = .ok (.ireturn, 1) := by decide +kernel
theorem d_P_image_0 : decode prog_1_method_35_code 0 = .ok (.aload_n 0, 1) := by decide +kernel
theorem d_P_image_1 : decode prog_1_method_35_code 1 = .ok (.getfield 16, 3) := by decide +kernel
theorem d_P_image_4 : decode prog_1_method_35_code 4 = .ok (.aload_n 0, 1) := by decide +kernel
theorem d_P_image_5 : decode prog_1_method_35_code 5 = .ok (.getfield 10, 3) := by decide +kernel
theorem d_P_image_8 : decode prog_1_method_35_code 8 = .ok (.invokevirtual 334, 3) := by decide +kernel
theorem d_P_image_11 : decode prog_1_method_35_code 11 = .ok (.aload_n 0, 1) := by decide +kernel
theorem d_P_image_12 : decode prog_1_method_35_code 12 = .ok (.dup, 1) := by decide +kernel
theorem d_P_image_13 : decode prog_1_method_35_code 13 = .ok (.getfield 57, 3) := by decide +kernel
theorem d_P_image_16 : decode prog_1_method_35_code 16 = .ok (.iconst 1, 1) := by decide +kernel
theorem d_P_image_17 : decode prog_1_method_35_code 17 = .ok (.iadd, 1) := by decide +kernel
theorem d_P_image_18 : decode prog_1_method_35_code 18 = .ok (.putfield 57, 3) := by decide +kernel
theorem d_P_image_21 : decode prog_1_method_35_code 21 = .ok (.aload_n 0, 1) := by decide +kernel
theorem d_P_image_22 : decode prog_1_method_35_code 22 = .ok (.getfield 57, 3) := by decide +kernel
theorem d_P_image_25 : decode prog_1_method_35_code 25 = .ok (.ireturn, 1) := by decide +kernel
theorem d_P_restore_0 : decode prog_1_method_36_code 0 = .ok (.aload_n 0, 1) := by decide +kernel
theorem d_P_restore_1 : decode prog_1_method_36_code 1 = .ok (.getfield 57, 3) := by decide +kernel
theorem d_P_restore_4 : decode prog_1_method_36_code 4 = .ok (.ifCond .ne 9, 3) := by decide +kernel
theorem d_P_restore_7 : decode prog_1_method_36_code 7 = .ok (.aload_n 0, 1) := by decide +kernel
theorem d_P_restore_8 : decode prog_1_method_36_code 8 = .ok (.iconst 2, 1) := by decide +kernel
theorem d_P_restore_9 : decode prog_1_method_36_code 9 = .ok (.invokevirtual 66, 3) := by decide +kernel
theorem d_P_restore_12 : decode prog_1_method_36_code 12 = .ok (.ireturn, 1) := by decide +kernel
theorem d_P_restore_13 : decode prog_1_method_36_code 13 = .ok (.aload_n 0, 1) := by decide +kernel
theorem d_P_restore_14 : decode prog_1_method_36_code 14 = .ok (.getfield 10, 3) := by decide +kernel
theorem d_P_restore_17 : decode prog_1_method_36_code 17 = .ok (.aload_n 0, 1) := by decide +kernel
theorem d_P_restore_18 : decode prog_1_method_36_code 18 = .ok (.getfield 16, 3) := by decide +kernel
theorem d_P_restore_21 : decode prog_1_method_36_code 21 = .ok (.invokevirtual 334, 3) := by decide +kernel
theorem d_P_restore_24 : decode prog_1_method_36_code 24 = .ok (.aload_n 0, 1) := by decide +kernel
theorem d_P_restore_25 : decode prog_1_method_36_code 25 = .ok (.getfield 10, 3) := by decide +kernel
theorem d_P_restore_28 : decode prog_1_method_36_code 28 = .ok (.getfield 93, 3) := by decide +kernel
theorem d_P_restore_31 : decode prog_1_method_36_code 31 = .ok (.getfield 337, 3) := by decide +kernel
theorem d_P_restore_34 : decode prog_1_method_36_code 34 = .ok (.ireturn, 1) := by decide +kernel
theorem d_P_tell_0 : decode prog_1_method_37_code 0 = .ok (.aload_n 0, 1) := by decide +kernel
theorem d_P_tell_1 : decode prog_1_method_37_code 1 = .ok (.getfield 10, 3) := by decide +kernel
theorem d_P_tell_4 : decode prog_1_method_37_code 4 = .ok (.getfield 340, 3) := by decide +kernel
theorem d_P_tell_7 : decode prog_1_method_37_code 7 = .ok (.iconst 1, 1) := by decide +kernel
theorem d_P_tell_8 : decode prog_1_method_37_code 8 = .ok (.invokevirtual 148, 3) := by decide +kernel
theorem d_P_tell_11 : decode prog_1_method_37_code 11 = .ok (.ifCond .ne 9, 3) := by decide +kernel
theorem d_P_tell_14 : decode prog_1_method_37_code 14 = .ok (.aload_n 0, 1) := by decide +kernel
theorem d_P_tell_15 : decode prog_1_method_37_code 15 = .ok (.iconst 4, 1) := by decide +kernel
theorem d_P_tell_16 : decode prog_1_method_37_code 16 = .ok (.invokevirtual 66, 3) := by decide +kernel
theorem d_P_tell_19 : decode prog_1_method_37_code 19 = .ok (.ireturn, 1) := by decide +kernel
theorem d_P_tell_20 : decode prog_1_method_37_code 20 = .ok (.aload_n 0, 1) := by decide +kernel
theorem d_P_tell_21 : decode prog_1_method_37_code 21 = .ok (.getfield 10, 3) := by decide +kernel
theorem d_P_tell_24 : decode prog_1_method_37_code 24 = .ok (.getfield 340, 3) := by decide +kernel
theorem d_P_tell_27 : decode prog_1_method_37_code 27 = .ok (.iload_n 1, 1) := by decide +kernel
theorem d_P_tell_28 : decode prog_1_method_37_code 28 = .ok (.invokevirtual 154, 3) := by decide +kernel
theorem d_P_tell_31 : decode prog_1_method_37_code 31 = .ok (.aload_n 0, 1) := by decide +kernel
theorem d_P_tell_32 : decode prog_1_method_37_code 32 = .ok (.getfield 10, 3) := by decide +kernel
theorem d_P_tell_35 : decode prog_1_method_37_code 35 = .ok (.getfield 340, 3) := by decide +kernel
theorem d_P_tell_38 : decode prog_1_method_37_code 38 = .ok (.invokevirtual 157, 3) := by decide +kernel
theorem d_P_tell_41 : decode prog_1_method_37_code 41 = .ok (.ireturn, 1) := by decide +kernel
theorem d_P_check_0 : decode prog_1_method_38_code 0 = .ok (.aload_n 0, 1) := by decide +kernel
theorem d_P_check_1 : decode prog_1_method_38_code 1 = .ok (.invokevirtual 343, 3) := by decide +kernel
theorem d_P_check_4 : decode prog_1_method_38_code 4 = .ok (.istore_n 1, 1) := by decide +kernel
theorem d_P_check_5 : decode prog_1_method_38_code 5 = .ok (.aload_n 0, 1) := by decide +kernel
theorem d_P_check_6 : decode prog_1_method_38_code 6 = .ok (.getfield 10, 3) := by decide +kernel
theorem d_P_check_9 : decode prog_1_method_38_code 9 = .ok (.getfield 340, 3) := by decide +kernel
theorem d_P_check_12 : decode prog_1_method_38_code 12 = .ok (.invokevirtual 162, 3) := by decide +kernel
theorem d_P_check_15 : decode prog_1_method_38_code 15 = .ok (.iload_n 1, 1) := by decide +kernel
theorem d_P_check_16 : decode prog_1_method_38_code 16 = .ok (.ifCond .ge 7, 3) := by decide +kernel
theorem d_P_check_19 : decode prog_1_method_38_code 19 = .ok (.iconst 0, 1) := by decide +kernel
theorem d_P_check_20 : decode prog_1_method_38_code 20 = .ok (.goto 6, 3) := by decide +kernel
theorem d_P_check_23 : decode prog_1_method_38_code 23 = .ok (.iconst 1, 1) := by decide +kernel
theorem d_P_check_24 : decode prog_1_method_38_code 24 = .ok (.iload_n 1, 1) := by decide +kernel
theorem d_P_check_25 : decode prog_1_method_38_code 25 = .ok (.iadd, 1) := by decide +kernel
theorem d_P_check_26 : decode prog_1_method_38_code 26 = .ok (.ireturn, 1) := by decide +kernel
theorem d_P_count_0 : decode prog_1_method_39_code 0 = .ok (.iload_n 1, 1) := by decide +kernel
theorem d_P_count_1 : decode prog_1_method_39_code 1 = .ok (.tableswitch 102 0 5 #[39, 50, 61, 72, 83, 94], 39) := by decide +kernel
theorem d_P_count_40 : decode prog_1_method_39_code 40 = .ok (.aload_n 0, 1) := by decide +kernel
theorem d_P_count_41 : decode prog_1_method_39_code 41 = .ok (.getfield 10, 3) := by decide +kernel
theorem d_P_count_44 : decode prog_1_method_39_code 44 = .ok (.getfield 70, 3) := by decide +kernel
theorem d_P_count_47 : decode prog_1_method_39_code 47 = .ok (.invokevirtual 116, 3) := by decide +kernel
theorem d_P_count_50 : decode prog_1_method_39_code 50 = .ok (.ireturn, 1) := by decide +kernel
theorem d_P_count_51 : decode prog_1_method_39_code 51 = .ok (.aload_n 0, 1) := by decide +kernel
theorem d_P_count_52 : decode prog_1_method_39_code 52 = .ok (.getfield 10, 3) := by decide +kernel
theorem d_P_count_55 : decode prog_1_method_39_code 55 = .ok (.getfield 93, 3) := by decide +kernel
theorem d_P_count_58 : decode prog_1_method_39_code 58 = .ok (.getfield 337, 3) := by decide +kernel
theorem d_P_count_61 : decode prog_1_method_39_code 61 = .ok (.ireturn, 1) := by decide +kernel
theorem d_P_count_62 : decode prog_1_method_39_code 62 = .ok (.aload_n 0, 1) := by decide +kernel
theorem d_P_count_63 : decode prog_1_method_39_code 63 = .ok (.getfield 10, 3) := by decide +kernel
theorem d_P_count_66 : decode prog_1_method_39_code 66 = .ok (.getfield 144, 3) := by decide +kernel
theorem d_P_count_69 : decode prog_1_method_39_code 69 = .ok (.invokevirtual 157, 3) := by decide +kernel
theorem d_P_count_72 : decode prog_1_method_39_code 72 = .ok (.ireturn, 1) := by decide +kernel
theorem d_P_count_73 : decode prog_1_method_39_code 73 = .ok (.aload_n 0, 1) := by decide +kernel
theorem d_P_count_74 : decode prog_1_method_39_code 74 = .ok (.getfield 10, 3) := by decide +kernel
theorem d_P_count_77 : decode prog_1_method_39_code 77 = .ok (.getfield 340, 3) := by decide +kernel
theorem d_P_count_80 : decode prog_1_method_39_code 80 = .ok (.invokevirtual 157, 3) := by decide +kernel
theorem d_P_count_83 : decode prog_1_method_39_code 83 = .ok (.ireturn, 1) := by decide +kernel
theorem d_P_count_84 : decode prog_1_method_39_code 84 = .ok (.aload_n 0, 1) := by decide +kernel
theorem d_P_count_85 : decode prog_1_method_39_code 85 = .ok (.getfield 43, 3) := by decide +kernel
theorem d_P_count_88 : decode prog_1_method_39_code 88 = .ok (.invokevirtual 300, 3) := by decide +kernel
theorem d_P_count_91 : decode prog_1_method_39_code 91 = .ok (.invokevirtual 157, 3) := by decide +kernel
theorem d_P_count_94 : decode prog_1_method_39_code 94 = .ok (.ireturn, 1) := by decide +kernel
theorem d_P_count_95 : decode prog_1_method_39_code 95 = .ok (.aload_n 0, 1) := by decide +kernel
theorem d_P_count_96 : decode prog_1_method_39_code 96 = .ok (.getfield 10, 3) := by decide +kernel
theorem d_P_count_99 : decode prog_1_method_39_code 99 = .ok (.getfield 202, 3) := by decide +kernel
theorem d_P_count_102 : decode prog_1_method_39_code 102 = .ok (.ireturn, 1) := by decide +kernel
theorem d_P_count_103 : decode prog_1_method_39_code 103 = .ok (.aload_n 0, 1) := by decide +kernel
theorem d_P_count_104 : decode prog_1_method_39_code 104 = .ok (.iconst 1, 1) := by decide +kernel
theorem d_P_count_105 : decode prog_1_method_39_code 105 = .ok (.invokevirtual 66, 3) := by decide +kernel
theorem d_P_count_108 : decode prog_1_method_39_code 108 = .ok (.ireturn, 1) := by decide +kernel
theorem d_P_told_0 : decode prog_1_method_40_code 0 = .ok (.iload_n 1, 1) := by decide +kernel
theorem d_P_told_1 : decode prog_1_method_40_code 1 = .ok (.iconst 1, 1) := by decide +kernel
theorem d_P_told_2 : decode prog_1_method_40_code 2 = .ok (.bipush 6, 2) := by decide +kernel
theorem d_P_told_4 : decode prog_1_method_40_code 4 = .ok (.invokestatic 133, 3) := by decide +kernel
theorem d_P_told_7 : decode prog_1_method_40_code 7 = .ok (.ifCond .eq 12, 3) := by decide +kernel
theorem d_P_told_10 : decode prog_1_method_40_code 10 = .ok (.iload_n 1, 1) := by decide +kernel
theorem d_P_told_11 : decode prog_1_method_40_code 11 = .ok (.aload_n 0, 1) := by decide +kernel
theorem d_P_told_12 : decode prog_1_method_40_code 12 = .ok (.getfield 53, 3) := by decide +kernel
theorem d_P_told_15 : decode prog_1_method_40_code 15 = .ok (.arraylength, 1) := by decide +kernel
theorem d_P_told_16 : decode prog_1_method_40_code 16 = .ok (.if_icmp .lt 9, 3) := by decide +kernel
theorem d_P_told_19 : decode prog_1_method_40_code 19 = .ok (.aload_n 0, 1) := by decide +kernel
theorem d_P_told_20 : decode prog_1_method_40_code 20 = .ok (.iconst 1, 1) := by decide +kernel
theorem d_P_told_21 : decode prog_1_method_40_code 21 = .ok (.invokevirtual 66, 3) := by decide +kernel
theorem d_P_told_24 : decode prog_1_method_40_code 24 = .ok (.ireturn, 1) := by decide +kernel
theorem d_P_told_25 : decode prog_1_method_40_code 25 = .ok (.aload_n 0, 1) := by decide +kernel
theorem d_P_told_26 : decode prog_1_method_40_code 26 = .ok (.getfield 53, 3) := by decide +kernel
theorem d_P_told_29 : decode prog_1_method_40_code 29 = .ok (.iload_n 1, 1) := by decide +kernel
theorem d_P_told_30 : decode prog_1_method_40_code 30 = .ok (.iaload, 1) := by decide +kernel
theorem d_P_told_31 : decode prog_1_method_40_code 31 = .ok (.ireturn, 1) := by decide +kernel
theorem d_P_fails_0 : decode prog_1_method_41_code 0 = .ok (.iload_n 1, 1) := by decide +kernel
theorem d_P_fails_1 : decode prog_1_method_41_code 1 = .ok (.ifCond .lt 22, 3) := by decide +kernel
theorem d_P_fails_4 : decode prog_1_method_41_code 4 = .ok (.iload_n 1, 1) := by decide +kernel
theorem d_P_fails_5 : decode prog_1_method_41_code 5 = .ok (.aload_n 0, 1) := by decide +kernel
theorem d_P_fails_6 : decode prog_1_method_41_code 6 = .ok (.getfield 53, 3) := by decide +kernel
theorem d_P_fails_9 : decode prog_1_method_41_code 9 = .ok (.arraylength, 1) := by decide +kernel
theorem d_P_fails_10 : decode prog_1_method_41_code 10 = .ok (.if_icmp .ge 13, 3) := by decide +kernel
theorem d_P_fails_13 : decode prog_1_method_41_code 13 = .ok (.aload_n 0, 1) := by decide +kernel
theorem d_P_fails_14 : decode prog_1_method_41_code 14 = .ok (.getfield 53, 3) := by decide +kernel
theorem d_P_fails_17 : decode prog_1_method_41_code 17 = .ok (.iload_n 1, 1) := by decide +kernel
theorem d_P_fails_18 : decode prog_1_method_41_code 18 = .ok (.dup2, 1) := by decide +kernel
theorem d_P_fails_19 : decode prog_1_method_41_code 19 = .ok (.iaload, 1) := by decide +kernel
theorem d_P_fails_20 : decode prog_1_method_41_code 20 = .ok (.iconst 1, 1) := by decide +kernel
theorem d_P_fails_21 : decode prog_1_method_41_code 21 = .ok (.iadd, 1) := by decide +kernel
theorem d_P_fails_22 : decode prog_1_method_41_code 22 = .ok (.iastore, 1) := by decide +kernel
theorem d_P_fails_23 : decode prog_1_method_41_code 23 = .ok (.ldc_w 346, 3) := by decide +kernel
theorem d_P_fails_26 : decode prog_1_method_41_code 26 = .ok (.iload_n 1, 1) := by decide +kernel
theorem d_P_fails_27 : decode prog_1_method_41_code 27 = .ok (.isub, 1) := by decide +kernel
theorem d_P_fails_28 : decode prog_1_method_41_code 28 = .ok (.ireturn, 1) := by decide +kernel
theorem d_P_isAtRest_0 : decode prog_1_method_42_code 0 = .ok (.aload_n 0, 1) := by decide +kernel
theorem d_P_isAtRest_1 : decode prog_1_method_42_code 1 = .ok (.getfield 10, 3) := by decide +kernel
theorem d_P_isAtRest_4 : decode prog_1_method_42_code 4 = .ok (.getfield 93, 3) := by decide +kernel
theorem d_P_isAtRest_7 : decode prog_1_method_42_code 7 = .ok (.getfield 237, 3) := by decide +kernel
theorem d_P_isAtRest_10 : decode prog_1_method_42_code 10 = .ok (.ifCond .ne 19, 3) := by decide +kernel
theorem d_P_isAtRest_13 : decode prog_1_method_42_code 13 = .ok (.aload_n 0, 1) := by decide +kernel
theorem d_P_isAtRest_14 : decode prog_1_method_42_code 14 = .ok (.getfield 10, 3) := by decide +kernel
theorem d_P_isAtRest_17 : decode prog_1_method_42_code 17 = .ok (.getfield 93, 3) := by decide +kernel
theorem d_P_isAtRest_20 : decode prog_1_method_42_code 20 = .ok (.getfield 337, 3) := by decide +kernel
theorem d_P_isAtRest_23 : decode prog_1_method_42_code 23 = .ok (.sipush 9999, 3) := by decide +kernel
theorem d_P_isAtRest_26 : decode prog_1_method_42_code 26 = .ok (.if_icmp .lt 7, 3) := by decide +kernel
theorem d_P_isAtRest_29 : decode prog_1_method_42_code 29 = .ok (.iconst 1, 1) := by decide +kernel
theorem d_P_isAtRest_30 : decode prog_1_method_42_code 30 = .ok (.goto 4, 3) := by decide +kernel
theorem d_P_isAtRest_33 : decode prog_1_method_42_code 33 = .ok (.iconst 0, 1) := by decide +kernel
theorem d_P_isAtRest_34 : decode prog_1_method_42_code 34 = .ok (.ireturn, 1) := by decide +kernel
theorem d_P_sheetAt_0 : decode prog_1_method_43_code 0 = .ok (.iload_n 1, 1) := by decide +kernel
theorem d_P_sheetAt_1 : decode prog_1_method_43_code 1 = .ok (.ifCond .lt 21, 3) := by decide +kernel
theorem d_P_sheetAt_4 : decode prog_1_method_43_code 4 = .ok (.iload_n 1, 1) := by decide +kernel
theorem d_P_sheetAt_5 : decode prog_1_method_43_code 5 = .ok (.aload_n 0, 1) := by decide +kernel
theorem d_P_sheetAt_6 : decode prog_1_method_43_code 6 = .ok (.getfield 49, 3) := by decide +kernel
theorem d_P_sheetAt_9 : decode prog_1_method_43_code 9 = .ok (.arraylength, 1) := by decide +kernel
theorem d_P_sheetAt_10 : decode prog_1_method_43_code 10 = .ok (.if_icmp .ge 12, 3) := by decide +kernel
theorem d_P_sheetAt_13 : decode prog_1_method_43_code 13 = .ok (.aload_n 0, 1) := by decide +kernel
theorem d_P_sheetAt_14 : decode prog_1_method_43_code 14 = .ok (.getfield 49, 3) := by decide +kernel
theorem d_P_sheetAt_17 : decode prog_1_method_43_code 17 = .ok (.iload_n 1, 1) := by decide +kernel
theorem d_P_sheetAt_18 : decode prog_1_method_43_code 18 = .ok (.aaload, 1) := by decide +kernel
theorem d_P_sheetAt_19 : decode prog_1_method_43_code 19 = .ok (.goto 4, 3) := by decide +kernel
theorem d_P_sheetAt_22 : decode prog_1_method_43_code 22 = .ok (.aconst_null, 1) := by decide +kernel
theorem d_P_sheetAt_23 : decode prog_1_method_43_code 23 = .ok (.areturn, 1) := by decide +kernel
theorem d_P_swingsTillOut_0 : decode prog_1_method_44_code 0 = .ok (.aload_n 0, 1) := by decide +kernel
theorem d_P_swingsTillOut_1 : decode prog_1_method_44_code 1 = .ok (.getfield 22, 3) := by decide +kernel
theorem d_P_swingsTillOut_4 : decode prog_1_method_44_code 4 = .ok (.aload_n 0, 1) := by decide +kernel
theorem d_P_swingsTillOut_5 : decode prog_1_method_44_code 5 = .ok (.getfield 10, 3) := by decide +kernel
theorem d_P_swingsTillOut_8 : decode prog_1_method_44_code 8 = .ok (.getfield 93, 3) := by decide +kernel
theorem d_P_swingsTillOut_11 : decode prog_1_method_44_code 11 = .ok (.invokevirtual 227, 3) := by decide +kernel
theorem d_P_swingsTillOut_14 : decode prog_1_method_44_code 14 = .ok (.aload_n 0, 1) := by decide +kernel
theorem d_P_swingsTillOut_15 : decode prog_1_method_44_code 15 = .ok (.getfield 10, 3) := by decide +kernel
theorem d_P_swingsTillOut_18 : decode prog_1_method_44_code 18 = .ok (.aload_n 0, 1) := by decide +kernel
theorem d_P_swingsTillOut_19 : decode prog_1_method_44_code 19 = .ok (.getfield 22, 3) := by decide +kernel
theorem d_P_swingsTillOut_22 : decode prog_1_method_44_code 22 = .ok (.iload_n 1, 1) := by decide +kernel
theorem d_P_swingsTillOut_23 : decode prog_1_method_44_code 23 = .ok (.bipush 60, 2) := by decide +kernel
theorem d_P_swingsTillOut_25 : decode prog_1_method_44_code 25 = .ok (.bipush 63, 2) := by decide +kernel
theorem d_P_swingsTillOut_27 : decode prog_1_method_44_code 27 = .ok (.invokevirtual 265, 3) := by decide +kernel
theorem d_P_swingsTillOut_30 : decode prog_1_method_44_code 30 = .ok (.ireturn, 1) := by decide +kernel
theorem d_P_leastSet_0 : decode prog_1_method_45_code 0 = .ok (.aload_n 0, 1) := by decide +kernel
theorem d_P_leastSet_1 : decode prog_1_method_45_code 1 = .ok (.getfield 10, 3) := by decide +kernel
theorem d_P_leastSet_4 : decode prog_1_method_45_code 4 = .ok (.getfield 70, 3) := by decide +kernel
theorem d_P_leastSet_7 : decode prog_1_method_45_code 7 = .ok (.invokevirtual 116, 3) := by decide +kernel
theorem d_P_leastSet_10 : decode prog_1_method_45_code 10 = .ok (.istore_n 3, 1) := by decide +kernel
theorem d_P_leastSet_11 : decode prog_1_method_45_code 11 = .ok (.iconst 0, 1) := by decide +kernel
theorem d_P_leastSet_12 : decode prog_1_method_45_code 12 = .ok (.istore 4, 2) := by decide +kernel
theorem d_P_leastSet_14 : decode prog_1_method_45_code 14 = .ok (.iload 4, 2) := by decide +kernel
theorem d_P_leastSet_16 : decode prog_1_method_45_code 16 = .ok (.iload_n 3, 1) := by decide +kernel
theorem d_P_leastSet_17 : decode prog_1_method_45_code 17 = .ok (.if_icmp .gt 74, 3) := by decide +kernel
theorem d_P_leastSet_20 : decode prog_1_method_45_code 20 = .ok (.iconst 0, 1) := by decide +kernel
theorem d_P_leastSet_21 : decode prog_1_method_45_code 21 = .ok (.istore 5, 2) := by decide +kernel
theorem d_P_leastSet_23 : decode prog_1_method_45_code 23 = .ok (.iload 5, 2) := by decide +kernel
theorem d_P_leastSet_25 : decode prog_1_method_45_code 25 = .ok (.iconst 1, 1) := by decide +kernel
theorem d_P_leastSet_26 : decode prog_1_method_45_code 26 = .ok (.iload_n 3, 1) := by decide +kernel
theorem d_P_leastSet_27 : decode prog_1_method_45_code 27 = .ok (.ishl, 1) := by decide +kernel
theorem d_P_leastSet_28 : decode prog_1_method_45_code 28 = .ok (.if_icmp .ge 57, 3) := by decide +kernel
theorem d_P_leastSet_31 : decode prog_1_method_45_code 31 = .ok (.iload 5, 2) := by decide +kernel
theorem d_P_leastSet_33 : decode prog_1_method_45_code 33 = .ok (.invokestatic 260, 3) := by decide +kernel
theorem d_P_leastSet_36 : decode prog_1_method_45_code 36 = .ok (.iload 4, 2) := by decide +kernel
theorem d_P_leastSet_38 : decode prog_1_method_45_code 38 = .ok (.if_icmp .eq 6, 3) := by decide +kernel
theorem d_P_leastSet_41 : decode prog_1_method_45_code 41 = .ok (.goto 38, 3) := by decide +kernel
theorem d_P_leastSet_44 : decode prog_1_method_45_code 44 = .ok (.aload_n 0, 1) := by decide +kernel
theorem d_P_leastSet_45 : decode prog_1_method_45_code 45 = .ok (.getfield 22, 3) := by decide +kernel
theorem d_P_leastSet_48 : decode prog_1_method_45_code 48 = .ok (.aload_n 0, 1) := by decide +kernel
theorem d_P_leastSet_49 : decode prog_1_method_45_code 49 = .ok (.getfield 10, 3) := by decide +kernel
theorem d_P_leastSet_52 : decode prog_1_method_45_code 52 = .ok (.getfield 93, 3) := by decide +kernel
theorem d_P_leastSet_55 : decode prog_1_method_45_code 55 = .ok (.invokevirtual 227, 3) := by decide +kernel
theorem d_P_leastSet_58 : decode prog_1_method_45_code 58 = .ok (.aload_n 0, 1) := by decide +kernel
theorem d_P_leastSet_59 : decode prog_1_method_45_code 59 = .ok (.getfield 10, 3) := by decide +kernel
theorem d_P_leastSet_62 : decode prog_1_method_45_code 62 = .ok (.aload_n 0, 1) := by decide +kernel
theorem d_P_leastSet_63 : decode prog_1_method_45_code 63 = .ok (.getfield 22, 3) := by decide +kernel
theorem d_P_leastSet_66 : decode prog_1_method_45_code 66 = .ok (.iload_n 1, 1) := by decide +kernel
theorem d_P_leastSet_67 : decode prog_1_method_45_code 67 = .ok (.iload_n 2, 1) := by decide +kernel
theorem d_P_leastSet_68 : decode prog_1_method_45_code 68 = .ok (.iload 5, 2) := by decide +kernel
theorem d_P_leastSet_70 : decode prog_1_method_45_code 70 = .ok (.invokevirtual 265, 3) := by decide +kernel
theorem d_P_leastSet_73 : decode prog_1_method_45_code 73 = .ok (.ifCond .lt 6, 3) := by decide +kernel
theorem d_P_leastSet_76 : decode prog_1_method_45_code 76 = .ok (.iload 5, 2) := by decide +kernel
theorem d_P_leastSet_78 : decode prog_1_method_45_code 78 = .ok (.ireturn, 1) := by decide +kernel
theorem d_P_leastSet_79 : decode prog_1_method_45_code 79 = .ok (.iinc 5 1, 3) := by decide +kernel
theorem d_P_leastSet_82 : decode prog_1_method_45_code 82 = .ok (.goto (-59), 3) := by decide +kernel
theorem d_P_leastSet_85 : decode prog_1_method_45_code 85 = .ok (.iinc 4 1, 3) := by decide +kernel
theorem d_P_leastSet_88 : decode prog_1_method_45_code 88 = .ok (.goto (-74), 3) := by decide +kernel
theorem d_P_leastSet_91 : decode prog_1_method_45_code 91 = .ok (.iconst (-1), 1) := by decide +kernel
theorem d_P_leastSet_92 : decode prog_1_method_45_code 92 = .ok (.ireturn, 1) := by decide +kernel
theorem d_P_firstUnlikePush_0 : decode prog_1_method_46_code 0 = .ok (.iconst 0, 1) := by decide +kernel
theorem d_P_firstUnlikePush_1 : decode prog_1_method_46_code 1 = .ok (.istore_n 1, 1) := by decide +kernel
theorem d_P_firstUnlikePush_2 : decode prog_1_method_46_code 2 = .ok (.iload_n 1, 1) := by decide +kernel
theorem d_P_firstUnlikePush_3 : decode prog_1_method_46_code 3 = .ok (.aload_n 0, 1) := by decide +kernel
theorem d_P_firstUnlikePush_4 : decode prog_1_method_46_code 4 = .ok (.getfield 10, 3) := by decide +kernel
theorem d_P_firstUnlikePush_7 : decode prog_1_method_46_code 7 = .ok (.getfield 340, 3) := by decide +kernel
theorem d_P_firstUnlikePush_10 : decode prog_1_method_46_code 10 = .ok (.invokevirtual 157, 3) := by decide +kernel
theorem d_P_firstUnlikePush_13 : decode prog_1_method_46_code 13 = .ok (.if_icmp .ge 57, 3) := by decide +kernel
theorem d_P_firstUnlikePush_16 : decode prog_1_method_46_code 16 = .ok (.aload_n 0, 1) := by decide +kernel
theorem d_P_firstUnlikePush_17 : decode prog_1_method_46_code 17 = .ok (.getfield 10, 3) := by decide +kernel
theorem d_P_firstUnlikePush_20 : decode prog_1_method_46_code 20 = .ok (.getfield 70, 3) := by decide +kernel
theorem d_P_firstUnlikePush_23 : decode prog_1_method_46_code 23 = .ok (.iload_n 1, 1) := by decide +kernel
theorem d_P_firstUnlikePush_24 : decode prog_1_method_46_code 24 = .ok (.invokevirtual 84, 3) := by decide +kernel
theorem d_P_firstUnlikePush_27 : decode prog_1_method_46_code 27 = .ok (.ifCond .eq 35, 3) := by decide +kernel
theorem d_P_firstUnlikePush_30 : decode prog_1_method_46_code 30 = .ok (.aload_n 0, 1) := by decide +kernel
theorem d_P_firstUnlikePush_31 : decode prog_1_method_46_code 31 = .ok (.getfield 10, 3) := by decide +kernel
theorem d_P_firstUnlikePush_34 : decode prog_1_method_46_code 34 = .ok (.getfield 70, 3) := by decide +kernel
theorem d_P_firstUnlikePush_37 : decode prog_1_method_46_code 37 = .ok (.iload_n 1, 1) := by decide +kernel
theorem d_P_firstUnlikePush_38 : decode prog_1_method_46_code 38 = .ok (.aload_n 0, 1) := by decide +kernel
theorem d_P_firstUnlikePush_39 : decode prog_1_method_46_code 39 = .ok (.getfield 10, 3) := by decide +kernel
theorem d_P_firstUnlikePush_42 : decode prog_1_method_46_code 42 = .ok (.getfield 93, 3) := by decide +kernel
theorem d_P_firstUnlikePush_45 : decode prog_1_method_46_code 45 = .ok (.invokevirtual 96, 3) := by decide +kernel
theorem d_P_firstUnlikePush_48 : decode prog_1_method_46_code 48 = .ok (.aload_n 0, 1) := by decide +kernel
theorem d_P_firstUnlikePush_49 : decode prog_1_method_46_code 49 = .ok (.getfield 10, 3) := by decide +kernel
theorem d_P_firstUnlikePush_52 : decode prog_1_method_46_code 52 = .ok (.getfield 340, 3) := by decide +kernel
theorem d_P_firstUnlikePush_55 : decode prog_1_method_46_code 55 = .ok (.iload_n 1, 1) := by decide +kernel
theorem d_P_firstUnlikePush_56 : decode prog_1_method_46_code 56 = .ok (.invokevirtual 304, 3) := by decide +kernel
theorem d_P_firstUnlikePush_59 : decode prog_1_method_46_code 59 = .ok (.if_icmp .eq 5, 3) := by decide +kernel
theorem d_P_firstUnlikePush_62 : decode prog_1_method_46_code 62 = .ok (.iload_n 1, 1) := by decide +kernel
theorem d_P_firstUnlikePush_63 : decode prog_1_method_46_code 63 = .ok (.ireturn, 1) := by decide +kernel
theorem d_P_firstUnlikePush_64 : decode prog_1_method_46_code 64 = .ok (.iinc 1 1, 3) := by decide +kernel
theorem d_P_firstUnlikePush_67 : decode prog_1_method_46_code 67 = .ok (.goto (-65), 3) := by decide +kernel
theorem d_P_firstUnlikePush_70 : decode prog_1_method_46_code 70 = .ok (.iconst (-1), 1) := by decide +kernel
theorem d_P_firstUnlikePush_71 : decode prog_1_method_46_code 71 = .ok (.ireturn, 1) := by decide +kernel
theorem d_P_within_0 : decode prog_1_method_47_code 0 = .ok (.iload_n 0, 1) := by decide +kernel
theorem d_P_within_1 : decode prog_1_method_47_code 1 = .ok (.iload_n 1, 1) := by decide +kernel
theorem d_P_within_2 : decode prog_1_method_47_code 2 = .ok (.if_icmp .lt 12, 3) := by decide +kernel
theorem d_P_within_5 : decode prog_1_method_47_code 5 = .ok (.iload_n 0, 1) := by decide +kernel
theorem d_P_within_6 : decode prog_1_method_47_code 6 = .ok (.iload_n 2, 1) := by decide +kernel
theorem d_P_within_7 : decode prog_1_method_47_code 7 = .ok (.if_icmp .gt 7, 3) := by decide +kernel
theorem d_P_within_10 : decode prog_1_method_47_code 10 = .ok (.iconst 1, 1) := by decide +kernel
theorem d_P_within_11 : decode prog_1_method_47_code 11 = .ok (.goto 4, 3) := by decide +kernel
theorem d_P_within_14 : decode prog_1_method_47_code 14 = .ok (.iconst 0, 1) := by decide +kernel
theorem d_P_within_15 : decode prog_1_method_47_code 15 = .ok (.ireturn, 1) := by decide +kernel
theorem d_P_isGas_0 : decode prog_1_method_48_code 0 = .ok (.iload_n 0, 1) := by decide +kernel
theorem d_P_isGas_1 : decode prog_1_method_48_code 1 = .ok (.iconst 0, 1) := by decide +kernel
theorem d_P_isGas_2 : decode prog_1_method_48_code 2 = .ok (.bipush 9, 2) := by decide +kernel
theorem d_P_isGas_4 : decode prog_1_method_48_code 4 = .ok (.invokestatic 133, 3) := by decide +kernel
theorem d_P_isGas_7 : decode prog_1_method_48_code 7 = .ok (.ireturn, 1) := by decide +kernel
theorem d_P_isKindAndLevel_0 : decode prog_1_method_49_code 0 = .ok (.iload_n 0, 1) := by decide +kernel
theorem d_P_isKindAndLevel_1 : decode prog_1_method_49_code 1 = .ok (.ifCond .lt 17, 3) := by decide +kernel
theorem d_P_isKindAndLevel_4 : decode prog_1_method_49_code 4 = .ok (.iload_n 0, 1) := by decide +kernel
theorem d_P_isKindAndLevel_5 : decode prog_1_method_49_code 5 = .ok (.bipush 10, 2) := by decide +kernel
theorem d_P_isKindAndLevel_7 : decode prog_1_method_49_code 7 = .ok (.idiv, 1) := by decide +kernel
theorem d_P_isKindAndLevel_8 : decode prog_1_method_49_code 8 = .ok (.invokestatic 107, 3) := by decide +kernel
theorem d_P_isKindAndLevel_11 : decode prog_1_method_49_code 11 = .ok (.ifCond .eq 7, 3) := by decide +kernel
theorem d_P_isKindAndLevel_14 : decode prog_1_method_49_code 14 = .ok (.iconst 1, 1) := by decide +kernel
theorem d_P_isKindAndLevel_15 : decode prog_1_method_49_code 15 = .ok (.goto 4, 3) := by decide +kernel
theorem d_P_isKindAndLevel_18 : decode prog_1_method_49_code 18 = .ok (.iconst 0, 1) := by decide +kernel
theorem d_P_isKindAndLevel_19 : decode prog_1_method_49_code 19 = .ok (.ireturn, 1) := by decide +kernel
theorem d_P_drawnBehind_0 : decode prog_1_method_50_code 0 = .ok (.iload_n 0, 1) := by decide +kernel
theorem d_P_drawnBehind_1 : decode prog_1_method_50_code 1 = .ok (.ldc_w 347, 3) := by decide +kernel
theorem d_P_drawnBehind_4 : decode prog_1_method_50_code 4 = .ok (.imul, 1) := by decide +kernel
theorem d_P_drawnBehind_5 : decode prog_1_method_50_code 5 = .ok (.sipush 12345, 3) := by decide +kernel
theorem d_P_drawnBehind_8 : decode prog_1_method_50_code 8 = .ok (.iadd, 1) := by decide +kernel
theorem d_P_drawnBehind_9 : decode prog_1_method_50_code 9 = .ok (.ireturn, 1) := by decide +kernel
theorem d_P_gasOf_0 : decode prog_1_method_51_code 0 = .ok (.iload_n 0, 1) := by decide +kernel
theorem d_P_gasOf_1 : decode prog_1_method_51_code 1 = .ok (.bipush 8, 2) := by decide +kernel
theorem d_P_gasOf_3 : decode prog_1_method_51_code 3 = .ok (.iushr, 1) := by decide +kernel
theorem d_P_gasOf_4 : decode prog_1_method_51_code 4 = .ok (.bipush 10, 2) := by decide +kernel
theorem d_P_gasOf_6 : decode prog_1_method_51_code 6 = .ok (.irem, 1) := by decide +kernel
theorem d_P_gasOf_7 : decode prog_1_method_51_code 7 = .ok (.ireturn, 1) := by decide +kernel
theorem d_P_commonDivisor_0 : decode prog_1_method_52_code 0 = .ok (.iload_n 0, 1) := by decide +kernel
theorem d_P_commonDivisor_1 : decode prog_1_method_52_code 1 = .ok (.istore_n 2, 1) := by decide +kernel
theorem d_P_commonDivisor_2 : decode prog_1_method_52_code 2 = .ok (.iload_n 1, 1) := by decide +kernel
theorem d_P_commonDivisor_3 : decode prog_1_method_52_code 3 = .ok (.istore_n 3, 1) := by decide +kernel
theorem d_P_commonDivisor_4 : decode prog_1_method_52_code 4 = .ok (.iconst 0, 1) := by decide +kernel
theorem d_P_commonDivisor_5 : decode prog_1_method_52_code 5 = .ok (.istore 4, 2) := by decide +kernel
theorem d_P_commonDivisor_7 : decode prog_1_method_52_code 7 = .ok (.iload 4, 2) := by decide +kernel
theorem d_P_commonDivisor_9 : decode prog_1_method_52_code 9 = .ok (.bipush 50, 2) := by decide +kernel
theorem d_P_commonDivisor_11 : decode prog_1_method_52_code 11 = .ok (.if_icmp .ge 23, 3) := by decide +kernel
theorem d_P_commonDivisor_14 : decode prog_1_method_52_code 14 = .ok (.iload_n 3, 1) := by decide +kernel
theorem d_P_commonDivisor_15 : decode prog_1_method_52_code 15 = .ok (.ifCond .eq 19, 3) := by decide +kernel
theorem d_P_commonDivisor_18 : decode prog_1_method_52_code 18 = .ok (.iload_n 2, 1) := by decide +kernel
theorem d_P_commonDivisor_19 : decode prog_1_method_52_code 19 = .ok (.iload_n 3, 1) := by decide +kernel
theorem d_P_commonDivisor_20 : decode prog_1_method_52_code 20 = .ok (.irem, 1) := by decide +kernel
theorem d_P_commonDivisor_21 : decode prog_1_method_52_code 21 = .ok (.istore 5, 2) := by decide +kernel
theorem d_P_commonDivisor_23 : decode prog_1_method_52_code 23 = .ok (.iload_n 3, 1) := by decide +kernel
theorem d_P_commonDivisor_24 : decode prog_1_method_52_code 24 = .ok (.istore_n 2, 1) := by decide +kernel
theorem d_P_commonDivisor_25 : decode prog_1_method_52_code 25 = .ok (.iload 5, 2) := by decide +kernel
theorem d_P_commonDivisor_27 : decode prog_1_method_52_code 27 = .ok (.istore_n 3, 1) := by decide +kernel
theorem d_P_commonDivisor_28 : decode prog_1_method_52_code 28 = .ok (.iinc 4 1, 3) := by decide +kernel
theorem d_P_commonDivisor_31 : decode prog_1_method_52_code 31 = .ok (.goto (-24), 3) := by decide +kernel
theorem d_P_commonDivisor_34 : decode prog_1_method_52_code 34 = .ok (.iload_n 2, 1) := by decide +kernel
theorem d_P_commonDivisor_35 : decode prog_1_method_52_code 35 = .ok (.ireturn, 1) := by decide +kernel
theorem d_R_init_0 : decode prog_13_method_1_code 0 = .ok (.aload_n 0, 1) := by decide +kernel
theorem d_R_init_1 : decode prog_13_method_1_code 1 = .ok (.invokespecial 1, 3) := by decide +kernel
theorem d_R_init_4 : decode prog_13_method_1_code 4 = .ok (.aload_n 0, 1) := by decide +kernel
theorem d_R_init_5 : decode prog_13_method_1_code 5 = .ok (.sipush 358, 3) := by decide +kernel
theorem d_R_init_8 : decode prog_13_method_1_code 8 = .ok (.newarray .int, 2) := by decide +kernel
theorem d_R_init_10 : decode prog_13_method_1_code 10 = .ok (.putfield 7, 3) := by decide +kernel
theorem d_R_init_13 : decode prog_13_method_1_code 13 = .ok (.aload_n 0, 1) := by decide +kernel
theorem d_R_init_14 : decode prog_13_method_1_code 14 = .ok (.sipush 358, 3) := by decide +kernel
theorem d_R_init_17 : decode prog_13_method_1_code 17 = .ok (.newarray .int, 2) := by decide +kernel
theorem d_R_init_19 : decode prog_13_method_1_code 19 = .ok (.putfield 13, 3) := by decide +kernel
theorem d_R_init_22 : decode prog_13_method_1_code 22 = .ok (.aload_n 0, 1) := by decide +kernel
theorem d_R_init_23 : decode prog_13_method_1_code 23 = .ok (.bipush 24, 2) := by decide +kernel
theorem d_R_init_25 : decode prog_13_method_1_code 25 = .ok (.newarray .int, 2) := by decide +kernel
theorem d_R_init_27 : decode prog_13_method_1_code 27 = .ok (.putfield 16, 3) := by decide +kernel
theorem d_R_init_30 : decode prog_13_method_1_code 30 = .ok (.aload_n 0, 1) := by decide +kernel
theorem d_R_init_31 : decode prog_13_method_1_code 31 = .ok (.bipush 7, 2) := by decide +kernel
theorem d_R_init_33 : decode prog_13_method_1_code 33 = .ok (.newarray .int, 2) := by decide +kernel
theorem d_R_init_35 : decode prog_13_method_1_code 35 = .ok (.putfield 19, 3) := by decide +kernel
theorem d_R_init_38 : decode prog_13_method_1_code 38 = .ok (.aload_n 0, 1) := by decide +kernel
theorem d_R_init_39 : decode prog_13_method_1_code 39 = .ok (.bipush 63, 2) := by decide +kernel
theorem d_R_init_41 : decode prog_13_method_1_code 41 = .ok (.putfield 22, 3) := by decide +kernel
theorem d_R_init_44 : decode prog_13_method_1_code 44 = .ok (.aload_n 0, 1) := by decide +kernel
theorem d_R_init_45 : decode prog_13_method_1_code 45 = .ok (.bipush 124, 2) := by decide +kernel
theorem d_R_init_47 : decode prog_13_method_1_code 47 = .ok (.newarray .int, 2) := by decide +kernel
theorem d_R_init_49 : decode prog_13_method_1_code 49 = .ok (.putfield 26, 3) := by decide +kernel
theorem d_R_init_52 : decode prog_13_method_1_code 52 = .ok (.aload_n 0, 1) := by decide +kernel
theorem d_R_init_53 : decode prog_13_method_1_code 53 = .ok (.sipush 128, 3) := by decide +kernel
theorem d_R_init_56 : decode prog_13_method_1_code 56 = .ok (.newarray .int, 2) := by decide +kernel
theorem d_R_init_58 : decode prog_13_method_1_code 58 = .ok (.putfield 29, 3) := by decide +kernel
theorem d_R_init_61 : decode prog_13_method_1_code 61 = .ok (.aload_n 0, 1) := by decide +kernel
theorem d_R_init_62 : decode prog_13_method_1_code 62 = .ok (.bipush 64, 2) := by decide +kernel
theorem d_R_init_64 : decode prog_13_method_1_code 64 = .ok (.newarray .int, 2) := by decide +kernel
theorem d_R_init_66 : decode prog_13_method_1_code 66 = .ok (.putfield 32, 3) := by decide +kernel
theorem d_R_init_69 : decode prog_13_method_1_code 69 = .ok (.aload_n 0, 1) := by decide +kernel
theorem d_R_init_70 : decode prog_13_method_1_code 70 = .ok (.bipush 30, 2) := by decide +kernel
theorem d_R_init_72 : decode prog_13_method_1_code 72 = .ok (.newarray .int, 2) := by decide +kernel
theorem d_R_init_74 : decode prog_13_method_1_code 74 = .ok (.putfield 35, 3) := by decide +kernel
theorem d_R_init_77 : decode prog_13_method_1_code 77 = .ok (.aload_n 0, 1) := by decide +kernel
theorem d_R_init_78 : decode prog_13_method_1_code 78 = .ok (.iconst 4, 1) := by decide +kernel
theorem d_R_init_79 : decode prog_13_method_1_code 79 = .ok (.newarray .int, 2) := by decide +kernel
theorem d_R_init_81 : decode prog_13_method_1_code 81 = .ok (.putfield 38, 3) := by decide +kernel
theorem d_R_init_84 : decode prog_13_method_1_code 84 = .ok (.aload_n 0, 1) := by decide +kernel
theorem d_R_init_85 : decode prog_13_method_1_code 85 = .ok (.iconst 4, 1) := by decide +kernel
theorem d_R_init_86 : decode prog_13_method_1_code 86 = .ok (.newarray .int, 2) := by decide +kernel
theorem d_R_init_88 : decode prog_13_method_1_code 88 = .ok (.putfield 41, 3) := by decide +kernel
theorem d_R_init_91 : decode prog_13_method_1_code 91 = .ok (.aload_n 0, 1) := by decide +kernel
theorem d_R_init_92 : decode prog_13_method_1_code 92 = .ok (.bipush 96, 2) := by decide +kernel
theorem d_R_init_94 : decode prog_13_method_1_code 94 = .ok (.newarray .int, 2) := by decide +kernel
theorem d_R_init_96 : decode prog_13_method_1_code 96 = .ok (.putfield 44, 3) := by decide +kernel
theorem d_R_init_99 : decode prog_13_method_1_code 99 = .ok (.aload_n 0, 1) := by decide +kernel
theorem d_R_init_100 : decode prog_13_method_1_code 100 = .ok (.bipush 24, 2) := by decide +kernel
theorem d_R_init_102 : decode prog_13_method_1_code 102 = .ok (.newarray .int, 2) := by decide +kernel
theorem d_R_init_104 : decode prog_13_method_1_code 104 = .ok (.putfield 47, 3) := by decide +kernel
theorem d_R_init_107 : decode prog_13_method_1_code 107 = .ok (.aload_n 0, 1) := by decide +kernel
theorem d_R_init_108 : decode prog_13_method_1_code 108 = .ok (.getfield 7, 3) := by decide +kernel
theorem d_R_init_111 : decode prog_13_method_1_code 111 = .ok (.bipush 8, 2) := by decide +kernel
theorem d_R_init_113 : decode prog_13_method_1_code 113 = .ok (.iconst 1, 1) := by decide +kernel
theorem d_R_init_114 : decode prog_13_method_1_code 114 = .ok (.iastore, 1) := by decide +kernel
theorem d_R_init_115 : decode prog_13_method_1_code 115 = .ok (.aload_n 0, 1) := by decide +kernel
theorem d_R_init_116 : decode prog_13_method_1_code 116 = .ok (.getfield 7, 3) := by decide +kernel
theorem d_R_init_119 : decode prog_13_method_1_code 119 = .ok (.iconst 0, 1) := by decide +kernel
theorem d_R_init_120 : decode prog_13_method_1_code 120 = .ok (.bipush 20, 2) := by decide +kernel
theorem d_R_init_122 : decode prog_13_method_1_code 122 = .ok (.iastore, 1) := by decide +kernel
theorem d_R_init_123 : decode prog_13_method_1_code 123 = .ok (.return_, 1) := by decide +kernel
theorem d_R_error_0 : decode prog_13_method_2_code 0 = .ok (.aload_n 0, 1) := by decide +kernel
theorem d_R_error_1 : decode prog_13_method_2_code 1 = .ok (.getfield 19, 3) := by decide +kernel
theorem d_R_error_4 : decode prog_13_method_2_code 4 = .ok (.iload_n 1, 1) := by decide +kernel
theorem d_R_error_5 : decode prog_13_method_2_code 5 = .ok (.dup2, 1) := by decide +kernel
theorem d_R_error_6 : decode prog_13_method_2_code 6 = .ok (.iaload, 1) := by decide +kernel
theorem d_R_error_7 : decode prog_13_method_2_code 7 = .ok (.iconst 1, 1) := by decide +kernel
theorem d_R_error_8 : decode prog_13_method_2_code 8 = .ok (.iadd, 1) := by decide +kernel
theorem d_R_error_9 : decode prog_13_method_2_code 9 = .ok (.iastore, 1) := by decide +kernel
theorem d_R_error_10 : decode prog_13_method_2_code 10 = .ok (.ldc 50, 2) := by decide +kernel
theorem d_R_error_12 : decode prog_13_method_2_code 12 = .ok (.iload_n 1, 1) := by decide +kernel
theorem d_R_error_13 : decode prog_13_method_2_code 13 = .ok (.isub, 1) := by decide +kernel
theorem d_R_error_14 : decode prog_13_method_2_code 14 = .ok (.ireturn, 1) := by decide +kernel
theorem d_R_in_0 : decode prog_13_method_3_code 0 = .ok (.iload_n 0, 1) := by decide +kernel
theorem d_R_in_1 : decode prog_13_method_3_code 1 = .ok (.iload_n 1, 1) := by decide +kernel
theorem d_R_in_2 : decode prog_13_method_3_code 2 = .ok (.if_icmp .lt 12, 3) := by decide +kernel
theorem d_R_in_5 : decode prog_13_method_3_code 5 = .ok (.iload_n 0, 1) := by decide +kernel
theorem d_R_in_6 : decode prog_13_method_3_code 6 = .ok (.iload_n 2, 1) := by decide +kernel
theorem d_R_in_7 : decode prog_13_method_3_code 7 = .ok (.if_icmp .gt 7, 3) := by decide +kernel
theorem d_R_in_10 : decode prog_13_method_3_code 10 = .ok (.iconst 1, 1) := by decide +kernel
theorem d_R_in_11 : decode prog_13_method_3_code 11 = .ok (.goto 4, 3) := by decide +kernel
theorem d_R_in_14 : decode prog_13_method_3_code 14 = .ok (.iconst 0, 1) := by decide +kernel
theorem d_R_in_15 : decode prog_13_method_3_code 15 = .ok (.ireturn, 1) := by decide +kernel
theorem d_R_held_0 : decode prog_13_method_4_code 0 = .ok (.iload_n 0, 1) := by decide +kernel
theorem d_R_held_1 : decode prog_13_method_4_code 1 = .ok (.iload_n 1, 1) := by decide +kernel
theorem d_R_held_2 : decode prog_13_method_4_code 2 = .ok (.if_icmp .ge 7, 3) := by decide +kernel
theorem d_R_held_5 : decode prog_13_method_4_code 5 = .ok (.iload_n 1, 1) := by decide +kernel
theorem d_R_held_6 : decode prog_13_method_4_code 6 = .ok (.goto 13, 3) := by decide +kernel
theorem d_R_held_9 : decode prog_13_method_4_code 9 = .ok (.iload_n 0, 1) := by decide +kernel
theorem d_R_held_10 : decode prog_13_method_4_code 10 = .ok (.iload_n 2, 1) := by decide +kernel
theorem d_R_held_11 : decode prog_13_method_4_code 11 = .ok (.if_icmp .le 7, 3) := by decide +kernel
theorem d_R_held_14 : decode prog_13_method_4_code 14 = .ok (.iload_n 2, 1) := by decide +kernel
theorem d_R_held_15 : decode prog_13_method_4_code 15 = .ok (.goto 4, 3) := by decide +kernel
theorem d_R_held_18 : decode prog_13_method_4_code 18 = .ok (.iload_n 0, 1) := by decide +kernel
theorem d_R_held_19 : decode prog_13_method_4_code 19 = .ok (.ireturn, 1) := by decide +kernel
theorem d_R_carry_0 : decode prog_13_method_5_code 0 = .ok (.iconst 0, 1) := by decide +kernel
theorem d_R_carry_1 : decode prog_13_method_5_code 1 = .ok (.istore_n 2, 1) := by decide +kernel
theorem d_R_carry_2 : decode prog_13_method_5_code 2 = .ok (.iload_n 2, 1) := by decide +kernel
theorem d_R_carry_3 : decode prog_13_method_5_code 3 = .ok (.sipush 358, 3) := by decide +kernel
theorem d_R_carry_6 : decode prog_13_method_5_code 6 = .ok (.if_icmp .ge 15, 3) := by decide +kernel
theorem d_R_carry_9 : decode prog_13_method_5_code 9 = .ok (.aload_n 1, 1) := by decide +kernel
theorem d_R_carry_10 : decode prog_13_method_5_code 10 = .ok (.iload_n 2, 1) := by decide +kernel
theorem d_R_carry_11 : decode prog_13_method_5_code 11 = .ok (.aload_n 0, 1) := by decide +kernel
theorem d_R_carry_12 : decode prog_13_method_5_code 12 = .ok (.iload_n 2, 1) := by decide +kernel
theorem d_R_carry_13 : decode prog_13_method_5_code 13 = .ok (.iaload, 1) := by decide +kernel
theorem d_R_carry_14 : decode prog_13_method_5_code 14 = .ok (.iastore, 1) := by decide +kernel
theorem d_R_carry_15 : decode prog_13_method_5_code 15 = .ok (.iinc 2 1, 3) := by decide +kernel
theorem d_R_carry_18 : decode prog_13_method_5_code 18 = .ok (.goto (-16), 3) := by decide +kernel
theorem d_R_carry_21 : decode prog_13_method_5_code 21 = .ok (.return_, 1) := by decide +kernel
theorem d_R_layDown_0 : decode prog_13_method_6_code 0 = .ok (.iconst 0, 1) := by decide +kernel
theorem d_R_layDown_1 : decode prog_13_method_6_code 1 = .ok (.istore_n 1, 1) := by decide +kernel
theorem d_R_layDown_2 : decode prog_13_method_6_code 2 = .ok (.iload_n 1, 1) := by decide +kernel
theorem d_R_layDown_3 : decode prog_13_method_6_code 3 = .ok (.bipush 24, 2) := by decide +kernel
theorem d_R_layDown_5 : decode prog_13_method_6_code 5 = .ok (.if_icmp .ge 21, 3) := by decide +kernel
theorem d_R_layDown_8 : decode prog_13_method_6_code 8 = .ok (.aload_n 0, 1) := by decide +kernel
theorem d_R_layDown_9 : decode prog_13_method_6_code 9 = .ok (.getfield 16, 3) := by decide +kernel
theorem d_R_layDown_12 : decode prog_13_method_6_code 12 = .ok (.iload_n 1, 1) := by decide +kernel
theorem d_R_layDown_13 : decode prog_13_method_6_code 13 = .ok (.aload_n 0, 1) := by decide +kernel
theorem d_R_layDown_14 : decode prog_13_method_6_code 14 = .ok (.getfield 7, 3) := by decide +kernel
theorem d_R_layDown_17 : decode prog_13_method_6_code 17 = .ok (.iload_n 1, 1) := by decide +kernel
theorem d_R_layDown_18 : decode prog_13_method_6_code 18 = .ok (.iaload, 1) := by decide +kernel
theorem d_R_layDown_19 : decode prog_13_method_6_code 19 = .ok (.iastore, 1) := by decide +kernel
theorem d_R_layDown_20 : decode prog_13_method_6_code 20 = .ok (.iinc 1 1, 3) := by decide +kernel
theorem d_R_layDown_23 : decode prog_13_method_6_code 23 = .ok (.goto (-21), 3) := by decide +kernel
theorem d_R_layDown_26 : decode prog_13_method_6_code 26 = .ok (.return_, 1) := by decide +kernel
theorem d_R_layBack_0 : decode prog_13_method_7_code 0 = .ok (.iconst 0, 1) := by decide +kernel
theorem d_R_layBack_1 : decode prog_13_method_7_code 1 = .ok (.istore_n 1, 1) := by decide +kernel
theorem d_R_layBack_2 : decode prog_13_method_7_code 2 = .ok (.iload_n 1, 1) := by decide +kernel
theorem d_R_layBack_3 : decode prog_13_method_7_code 3 = .ok (.bipush 24, 2) := by decide +kernel
theorem d_R_layBack_5 : decode prog_13_method_7_code 5 = .ok (.if_icmp .ge 21, 3) := by decide +kernel
theorem d_R_layBack_8 : decode prog_13_method_7_code 8 = .ok (.aload_n 0, 1) := by decide +kernel
theorem d_R_layBack_9 : decode prog_13_method_7_code 9 = .ok (.getfield 7, 3) := by decide +kernel
theorem d_R_layBack_12 : decode prog_13_method_7_code 12 = .ok (.iload_n 1, 1) := by decide +kernel
theorem d_R_layBack_13 : decode prog_13_method_7_code 13 = .ok (.aload_n 0, 1) := by decide +kernel
theorem d_R_layBack_14 : decode prog_13_method_7_code 14 = .ok (.getfield 16, 3) := by decide +kernel
theorem d_R_layBack_17 : decode prog_13_method_7_code 17 = .ok (.iload_n 1, 1) := by decide +kernel
theorem d_R_layBack_18 : decode prog_13_method_7_code 18 = .ok (.iaload, 1) := by decide +kernel
theorem d_R_layBack_19 : decode prog_13_method_7_code 19 = .ok (.iastore, 1) := by decide +kernel
theorem d_R_layBack_20 : decode prog_13_method_7_code 20 = .ok (.iinc 1 1, 3) := by decide +kernel
theorem d_R_layBack_23 : decode prog_13_method_7_code 23 = .ok (.goto (-21), 3) := by decide +kernel
theorem d_R_layBack_26 : decode prog_13_method_7_code 26 = .ok (.return_, 1) := by decide +kernel
theorem d_R_isPusher_0 : decode prog_13_method_8_code 0 = .ok (.iload_n 1, 1) := by decide +kernel
theorem d_R_isPusher_1 : decode prog_13_method_8_code 1 = .ok (.iconst 0, 1) := by decide +kernel
theorem d_R_isPusher_2 : decode prog_13_method_8_code 2 = .ok (.aload_n 0, 1) := by decide +kernel
theorem d_R_isPusher_3 : decode prog_13_method_8_code 3 = .ok (.getfield 7, 3) := by decide +kernel
theorem d_R_isPusher_6 : decode prog_13_method_8_code 6 = .ok (.bipush 11, 2) := by decide +kernel
theorem d_R_isPusher_8 : decode prog_13_method_8_code 8 = .ok (.iaload, 1) := by decide +kernel
theorem d_R_isPusher_9 : decode prog_13_method_8_code 9 = .ok (.iconst 1, 1) := by decide +kernel
theorem d_R_isPusher_10 : decode prog_13_method_8_code 10 = .ok (.isub, 1) := by decide +kernel
theorem d_R_isPusher_11 : decode prog_13_method_8_code 11 = .ok (.invokestatic 51, 3) := by decide +kernel
theorem d_R_isPusher_14 : decode prog_13_method_8_code 14 = .ok (.ireturn, 1) := by decide +kernel
theorem d_R_its_0 : decode prog_13_method_9_code 0 = .ok (.aload_n 0, 1) := by decide +kernel
theorem d_R_its_1 : decode prog_13_method_9_code 1 = .ok (.getfield 7, 3) := by decide +kernel
theorem d_R_its_4 : decode prog_13_method_9_code 4 = .ok (.bipush 12, 2) := by decide +kernel
theorem d_R_its_6 : decode prog_13_method_9_code 6 = .ok (.iconst 2, 1) := by decide +kernel
theorem d_R_its_7 : decode prog_13_method_9_code 7 = .ok (.iload_n 1, 1) := by decide +kernel
theorem d_R_its_8 : decode prog_13_method_9_code 8 = .ok (.imul, 1) := by decide +kernel
theorem d_R_its_9 : decode prog_13_method_9_code 9 = .ok (.iadd, 1) := by decide +kernel
theorem d_R_its_10 : decode prog_13_method_9_code 10 = .ok (.iload_n 2, 1) := by decide +kernel
theorem d_R_its_11 : decode prog_13_method_9_code 11 = .ok (.iadd, 1) := by decide +kernel
theorem d_R_its_12 : decode prog_13_method_9_code 12 = .ok (.iaload, 1) := by decide +kernel
theorem d_R_its_13 : decode prog_13_method_9_code 13 = .ok (.ireturn, 1) := by decide +kernel
theorem d_R_lays1_0 : decode prog_13_method_10_code 0 = .ok (.aload_n 0, 1) := by decide +kernel
theorem d_R_lays1_1 : decode prog_13_method_10_code 1 = .ok (.getfield 7, 3) := by decide +kernel
theorem d_R_lays1_4 : decode prog_13_method_10_code 4 = .ok (.bipush 12, 2) := by decide +kernel
theorem d_R_lays1_6 : decode prog_13_method_10_code 6 = .ok (.iconst 2, 1) := by decide +kernel
theorem d_R_lays1_7 : decode prog_13_method_10_code 7 = .ok (.iload_n 1, 1) := by decide +kernel
theorem d_R_lays1_8 : decode prog_13_method_10_code 8 = .ok (.imul, 1) := by decide +kernel
theorem d_R_lays1_9 : decode prog_13_method_10_code 9 = .ok (.iadd, 1) := by decide +kernel
theorem d_R_lays1_10 : decode prog_13_method_10_code 10 = .ok (.iload_n 2, 1) := by decide +kernel
theorem d_R_lays1_11 : decode prog_13_method_10_code 11 = .ok (.iadd, 1) := by decide +kernel
theorem d_R_lays1_12 : decode prog_13_method_10_code 12 = .ok (.iload_n 3, 1) := by decide +kernel
theorem d_R_lays1_13 : decode prog_13_method_10_code 13 = .ok (.iastore, 1) := by decide +kernel
theorem d_R_lays1_14 : decode prog_13_method_10_code 14 = .ok (.return_, 1) := by decide +kernel
