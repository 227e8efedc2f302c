/-! decode rows (printed by wip/whole/gen4.py) -/
theorem d_R_carIs_0 : decode prog_13_method_49_code 0 = .ok (.iload_n 1, 1) := by decide +kernel
theorem d_R_carIs_1 : decode prog_13_method_49_code 1 = .ok (.iconst 0, 1) := by decide +kernel
theorem d_R_carIs_2 : decode prog_13_method_49_code 2 = .ok (.bipush 6, 2) := by decide +kernel
theorem d_R_carIs_4 : decode prog_13_method_49_code 4 = .ok (.invokestatic 51, 3) := by decide +kernel
theorem d_R_carIs_7 : decode prog_13_method_49_code 7 = .ok (.ifCond .eq 12, 3) := by decide +kernel
theorem d_R_carIs_10 : decode prog_13_method_49_code 10 = .ok (.aload_n 0, 1) := by decide +kernel
theorem d_R_carIs_11 : decode prog_13_method_49_code 11 = .ok (.getfield 7, 3) := by decide +kernel
theorem d_R_carIs_14 : decode prog_13_method_49_code 14 = .ok (.iload_n 1, 1) := by decide +kernel
theorem d_R_carIs_15 : decode prog_13_method_49_code 15 = .ok (.iaload, 1) := by decide +kernel
theorem d_R_carIs_16 : decode prog_13_method_49_code 16 = .ok (.goto 8, 3) := by decide +kernel
theorem d_R_carIs_19 : decode prog_13_method_49_code 19 = .ok (.aload_n 0, 1) := by decide +kernel
theorem d_R_carIs_20 : decode prog_13_method_49_code 20 = .ok (.iconst 1, 1) := by decide +kernel
theorem d_R_carIs_21 : decode prog_13_method_49_code 21 = .ok (.invokevirtual 55, 3) := by decide +kernel
theorem d_R_carIs_24 : decode prog_13_method_49_code 24 = .ok (.ireturn, 1) := by decide +kernel
theorem d_R_park_0 : decode prog_13_method_50_code 0 = .ok (.iconst 0, 1) := by decide +kernel
theorem d_R_park_1 : decode prog_13_method_50_code 1 = .ok (.iload_n 1, 1) := by decide +kernel
theorem d_R_park_2 : decode prog_13_method_50_code 2 = .ok (.invokestatic 177, 3) := by decide +kernel
theorem d_R_park_5 : decode prog_13_method_50_code 5 = .ok (.ifCond .ne 9, 3) := by decide +kernel
theorem d_R_park_8 : decode prog_13_method_50_code 8 = .ok (.aload_n 0, 1) := by decide +kernel
theorem d_R_park_9 : decode prog_13_method_50_code 9 = .ok (.iconst 1, 1) := by decide +kernel
theorem d_R_park_10 : decode prog_13_method_50_code 10 = .ok (.invokevirtual 55, 3) := by decide +kernel
theorem d_R_park_13 : decode prog_13_method_50_code 13 = .ok (.ireturn, 1) := by decide +kernel
theorem d_R_park_14 : decode prog_13_method_50_code 14 = .ok (.aload_n 0, 1) := by decide +kernel
theorem d_R_park_15 : decode prog_13_method_50_code 15 = .ok (.getfield 7, 3) := by decide +kernel
theorem d_R_park_18 : decode prog_13_method_50_code 18 = .ok (.iconst 0, 1) := by decide +kernel
theorem d_R_park_19 : decode prog_13_method_50_code 19 = .ok (.iload_n 1, 1) := by decide +kernel
theorem d_R_park_20 : decode prog_13_method_50_code 20 = .ok (.iastore, 1) := by decide +kernel
theorem d_R_park_21 : decode prog_13_method_50_code 21 = .ok (.aload_n 0, 1) := by decide +kernel
theorem d_R_park_22 : decode prog_13_method_50_code 22 = .ok (.getfield 7, 3) := by decide +kernel
theorem d_R_park_25 : decode prog_13_method_50_code 25 = .ok (.iconst 1, 1) := by decide +kernel
theorem d_R_park_26 : decode prog_13_method_50_code 26 = .ok (.iconst 0, 1) := by decide +kernel
theorem d_R_park_27 : decode prog_13_method_50_code 27 = .ok (.iastore, 1) := by decide +kernel
theorem d_R_park_28 : decode prog_13_method_50_code 28 = .ok (.aload_n 0, 1) := by decide +kernel
theorem d_R_park_29 : decode prog_13_method_50_code 29 = .ok (.getfield 7, 3) := by decide +kernel
theorem d_R_park_32 : decode prog_13_method_50_code 32 = .ok (.iconst 2, 1) := by decide +kernel
theorem d_R_park_33 : decode prog_13_method_50_code 33 = .ok (.iconst 0, 1) := by decide +kernel
theorem d_R_park_34 : decode prog_13_method_50_code 34 = .ok (.iastore, 1) := by decide +kernel
theorem d_R_park_35 : decode prog_13_method_50_code 35 = .ok (.aload_n 0, 1) := by decide +kernel
theorem d_R_park_36 : decode prog_13_method_50_code 36 = .ok (.getfield 7, 3) := by decide +kernel
theorem d_R_park_39 : decode prog_13_method_50_code 39 = .ok (.iconst 3, 1) := by decide +kernel
theorem d_R_park_40 : decode prog_13_method_50_code 40 = .ok (.iconst 0, 1) := by decide +kernel
theorem d_R_park_41 : decode prog_13_method_50_code 41 = .ok (.iastore, 1) := by decide +kernel
theorem d_R_park_42 : decode prog_13_method_50_code 42 = .ok (.aload_n 0, 1) := by decide +kernel
theorem d_R_park_43 : decode prog_13_method_50_code 43 = .ok (.getfield 7, 3) := by decide +kernel
theorem d_R_park_46 : decode prog_13_method_50_code 46 = .ok (.iconst 5, 1) := by decide +kernel
theorem d_R_park_47 : decode prog_13_method_50_code 47 = .ok (.iconst 0, 1) := by decide +kernel
theorem d_R_park_48 : decode prog_13_method_50_code 48 = .ok (.iastore, 1) := by decide +kernel
theorem d_R_park_49 : decode prog_13_method_50_code 49 = .ok (.aload_n 0, 1) := by decide +kernel
theorem d_R_park_50 : decode prog_13_method_50_code 50 = .ok (.getfield 7, 3) := by decide +kernel
theorem d_R_park_53 : decode prog_13_method_50_code 53 = .ok (.bipush 6, 2) := by decide +kernel
theorem d_R_park_55 : decode prog_13_method_50_code 55 = .ok (.iaload, 1) := by decide +kernel
theorem d_R_park_56 : decode prog_13_method_50_code 56 = .ok (.ireturn, 1) := by decide +kernel
theorem d_R_law_0 : decode prog_13_method_51_code 0 = .ok (.iload_n 1, 1) := by decide +kernel
theorem d_R_law_1 : decode prog_13_method_51_code 1 = .ok (.iconst 0, 1) := by decide +kernel
theorem d_R_law_2 : decode prog_13_method_51_code 2 = .ok (.iconst 1, 1) := by decide +kernel
theorem d_R_law_3 : decode prog_13_method_51_code 3 = .ok (.invokestatic 51, 3) := by decide +kernel
theorem d_R_law_6 : decode prog_13_method_51_code 6 = .ok (.ifCond .ne 9, 3) := by decide +kernel
theorem d_R_law_9 : decode prog_13_method_51_code 9 = .ok (.aload_n 0, 1) := by decide +kernel
theorem d_R_law_10 : decode prog_13_method_51_code 10 = .ok (.iconst 1, 1) := by decide +kernel
theorem d_R_law_11 : decode prog_13_method_51_code 11 = .ok (.invokevirtual 55, 3) := by decide +kernel
theorem d_R_law_14 : decode prog_13_method_51_code 14 = .ok (.ireturn, 1) := by decide +kernel
theorem d_R_law_15 : decode prog_13_method_51_code 15 = .ok (.iload_n 1, 1) := by decide +kernel
theorem d_R_law_16 : decode prog_13_method_51_code 16 = .ok (.ifCond .ne 14, 3) := by decide +kernel
theorem d_R_law_19 : decode prog_13_method_51_code 19 = .ok (.aload_n 0, 1) := by decide +kernel
theorem d_R_law_20 : decode prog_13_method_51_code 20 = .ok (.iload_n 2, 1) := by decide +kernel
theorem d_R_law_21 : decode prog_13_method_51_code 21 = .ok (.iload_n 3, 1) := by decide +kernel
theorem d_R_law_22 : decode prog_13_method_51_code 22 = .ok (.iload 4, 2) := by decide +kernel
theorem d_R_law_24 : decode prog_13_method_51_code 24 = .ok (.invokevirtual 133, 3) := by decide +kernel
theorem d_R_law_27 : decode prog_13_method_51_code 27 = .ok (.goto 11, 3) := by decide +kernel
theorem d_R_law_30 : decode prog_13_method_51_code 30 = .ok (.aload_n 0, 1) := by decide +kernel
theorem d_R_law_31 : decode prog_13_method_51_code 31 = .ok (.iload_n 2, 1) := by decide +kernel
theorem d_R_law_32 : decode prog_13_method_51_code 32 = .ok (.iload_n 3, 1) := by decide +kernel
theorem d_R_law_33 : decode prog_13_method_51_code 33 = .ok (.iload 4, 2) := by decide +kernel
theorem d_R_law_35 : decode prog_13_method_51_code 35 = .ok (.invokevirtual 136, 3) := by decide +kernel
theorem d_R_law_38 : decode prog_13_method_51_code 38 = .ok (.ireturn, 1) := by decide +kernel
theorem d_R_canSwing_0 : decode prog_13_method_52_code 0 = .ok (.aload_n 0, 1) := by decide +kernel
theorem d_R_canSwing_1 : decode prog_13_method_52_code 1 = .ok (.invokevirtual 152, 3) := by decide +kernel
theorem d_R_canSwing_4 : decode prog_13_method_52_code 4 = .ok (.ifCond .ne 20, 3) := by decide +kernel
theorem d_R_canSwing_7 : decode prog_13_method_52_code 7 = .ok (.aload_n 0, 1) := by decide +kernel
theorem d_R_canSwing_8 : decode prog_13_method_52_code 8 = .ok (.getfield 7, 3) := by decide +kernel
theorem d_R_canSwing_11 : decode prog_13_method_52_code 11 = .ok (.bipush 7, 2) := by decide +kernel
theorem d_R_canSwing_13 : decode prog_13_method_52_code 13 = .ok (.iaload, 1) := by decide +kernel
theorem d_R_canSwing_14 : decode prog_13_method_52_code 14 = .ok (.sipush 9999, 3) := by decide +kernel
theorem d_R_canSwing_17 : decode prog_13_method_52_code 17 = .ok (.if_icmp .ge 7, 3) := by decide +kernel
theorem d_R_canSwing_20 : decode prog_13_method_52_code 20 = .ok (.iconst 1, 1) := by decide +kernel
theorem d_R_canSwing_21 : decode prog_13_method_52_code 21 = .ok (.goto 4, 3) := by decide +kernel
theorem d_R_canSwing_24 : decode prog_13_method_52_code 24 = .ok (.iconst 0, 1) := by decide +kernel
theorem d_R_canSwing_25 : decode prog_13_method_52_code 25 = .ok (.ireturn, 1) := by decide +kernel
theorem d_R_swing_0 : decode prog_13_method_53_code 0 = .ok (.iload_n 1, 1) := by decide +kernel
theorem d_R_swing_1 : decode prog_13_method_53_code 1 = .ok (.invokestatic 181, 3) := by decide +kernel
theorem d_R_swing_4 : decode prog_13_method_53_code 4 = .ok (.ifCond .ne 9, 3) := by decide +kernel
theorem d_R_swing_7 : decode prog_13_method_53_code 7 = .ok (.aload_n 0, 1) := by decide +kernel
theorem d_R_swing_8 : decode prog_13_method_53_code 8 = .ok (.iconst 1, 1) := by decide +kernel
theorem d_R_swing_9 : decode prog_13_method_53_code 9 = .ok (.invokevirtual 55, 3) := by decide +kernel
theorem d_R_swing_12 : decode prog_13_method_53_code 12 = .ok (.ireturn, 1) := by decide +kernel
theorem d_R_swing_13 : decode prog_13_method_53_code 13 = .ok (.aload_n 0, 1) := by decide +kernel
theorem d_R_swing_14 : decode prog_13_method_53_code 14 = .ok (.invokevirtual 184, 3) := by decide +kernel
theorem d_R_swing_17 : decode prog_13_method_53_code 17 = .ok (.ifCond .ne 9, 3) := by decide +kernel
theorem d_R_swing_20 : decode prog_13_method_53_code 20 = .ok (.aload_n 0, 1) := by decide +kernel
theorem d_R_swing_21 : decode prog_13_method_53_code 21 = .ok (.iconst 3, 1) := by decide +kernel
theorem d_R_swing_22 : decode prog_13_method_53_code 22 = .ok (.invokevirtual 55, 3) := by decide +kernel
theorem d_R_swing_25 : decode prog_13_method_53_code 25 = .ok (.ireturn, 1) := by decide +kernel
theorem d_R_swing_26 : decode prog_13_method_53_code 26 = .ok (.aload_n 0, 1) := by decide +kernel
theorem d_R_swing_27 : decode prog_13_method_53_code 27 = .ok (.iload_n 1, 1) := by decide +kernel
theorem d_R_swing_28 : decode prog_13_method_53_code 28 = .ok (.invokevirtual 155, 3) := by decide +kernel
theorem d_R_swing_31 : decode prog_13_method_53_code 31 = .ok (.istore_n 2, 1) := by decide +kernel
theorem d_R_swing_32 : decode prog_13_method_53_code 32 = .ok (.aload_n 0, 1) := by decide +kernel
theorem d_R_swing_33 : decode prog_13_method_53_code 33 = .ok (.getfield 7, 3) := by decide +kernel
theorem d_R_swing_36 : decode prog_13_method_53_code 36 = .ok (.iconst 2, 1) := by decide +kernel
theorem d_R_swing_37 : decode prog_13_method_53_code 37 = .ok (.iaload, 1) := by decide +kernel
theorem d_R_swing_38 : decode prog_13_method_53_code 38 = .ok (.ireturn, 1) := by decide +kernel
theorem d_R_swings_0 : decode prog_13_method_54_code 0 = .ok (.iload_n 1, 1) := by decide +kernel
theorem d_R_swings_1 : decode prog_13_method_54_code 1 = .ok (.iconst 1, 1) := by decide +kernel
theorem d_R_swings_2 : decode prog_13_method_54_code 2 = .ok (.bipush 40, 2) := by decide +kernel
theorem d_R_swings_4 : decode prog_13_method_54_code 4 = .ok (.invokestatic 51, 3) := by decide +kernel
theorem d_R_swings_7 : decode prog_13_method_54_code 7 = .ok (.ifCond .ne 9, 3) := by decide +kernel
theorem d_R_swings_10 : decode prog_13_method_54_code 10 = .ok (.aload_n 0, 1) := by decide +kernel
theorem d_R_swings_11 : decode prog_13_method_54_code 11 = .ok (.iconst 1, 1) := by decide +kernel
theorem d_R_swings_12 : decode prog_13_method_54_code 12 = .ok (.invokevirtual 55, 3) := by decide +kernel
theorem d_R_swings_15 : decode prog_13_method_54_code 15 = .ok (.ireturn, 1) := by decide +kernel
theorem d_R_swings_16 : decode prog_13_method_54_code 16 = .ok (.aload_n 0, 1) := by decide +kernel
theorem d_R_swings_17 : decode prog_13_method_54_code 17 = .ok (.invokevirtual 184, 3) := by decide +kernel
theorem d_R_swings_20 : decode prog_13_method_54_code 20 = .ok (.ifCond .ne 9, 3) := by decide +kernel
theorem d_R_swings_23 : decode prog_13_method_54_code 23 = .ok (.aload_n 0, 1) := by decide +kernel
theorem d_R_swings_24 : decode prog_13_method_54_code 24 = .ok (.iconst 3, 1) := by decide +kernel
theorem d_R_swings_25 : decode prog_13_method_54_code 25 = .ok (.invokevirtual 55, 3) := by decide +kernel
theorem d_R_swings_28 : decode prog_13_method_54_code 28 = .ok (.ireturn, 1) := by decide +kernel
theorem d_R_swings_29 : decode prog_13_method_54_code 29 = .ok (.iconst 0, 1) := by decide +kernel
theorem d_R_swings_30 : decode prog_13_method_54_code 30 = .ok (.istore_n 2, 1) := by decide +kernel
theorem d_R_swings_31 : decode prog_13_method_54_code 31 = .ok (.iload_n 2, 1) := by decide +kernel
theorem d_R_swings_32 : decode prog_13_method_54_code 32 = .ok (.iload_n 1, 1) := by decide +kernel
theorem d_R_swings_33 : decode prog_13_method_54_code 33 = .ok (.if_icmp .ge 28, 3) := by decide +kernel
theorem d_R_swings_36 : decode prog_13_method_54_code 36 = .ok (.aload_n 0, 1) := by decide +kernel
theorem d_R_swings_37 : decode prog_13_method_54_code 37 = .ok (.invokevirtual 184, 3) := by decide +kernel
theorem d_R_swings_40 : decode prog_13_method_54_code 40 = .ok (.ifCond .eq 21, 3) := by decide +kernel
theorem d_R_swings_43 : decode prog_13_method_54_code 43 = .ok (.aload_n 0, 1) := by decide +kernel
theorem d_R_swings_44 : decode prog_13_method_54_code 44 = .ok (.aload_n 0, 1) := by decide +kernel
theorem d_R_swings_45 : decode prog_13_method_54_code 45 = .ok (.invokevirtual 187, 3) := by decide +kernel
theorem d_R_swings_48 : decode prog_13_method_54_code 48 = .ok (.bipush 10, 2) := by decide +kernel
theorem d_R_swings_50 : decode prog_13_method_54_code 50 = .ok (.irem, 1) := by decide +kernel
theorem d_R_swings_51 : decode prog_13_method_54_code 51 = .ok (.invokevirtual 155, 3) := by decide +kernel
theorem d_R_swings_54 : decode prog_13_method_54_code 54 = .ok (.istore_n 3, 1) := by decide +kernel
theorem d_R_swings_55 : decode prog_13_method_54_code 55 = .ok (.iinc 2 1, 3) := by decide +kernel
theorem d_R_swings_58 : decode prog_13_method_54_code 58 = .ok (.goto (-27), 3) := by decide +kernel
theorem d_R_swings_61 : decode prog_13_method_54_code 61 = .ok (.iload_n 2, 1) := by decide +kernel
theorem d_R_swings_62 : decode prog_13_method_54_code 62 = .ok (.ireturn, 1) := by decide +kernel
theorem d_R_shovels_0 : decode prog_13_method_55_code 0 = .ok (.iconst 0, 1) := by decide +kernel
theorem d_R_shovels_1 : decode prog_13_method_55_code 1 = .ok (.istore_n 2, 1) := by decide +kernel
theorem d_R_shovels_2 : decode prog_13_method_55_code 2 = .ok (.iload_n 2, 1) := by decide +kernel
theorem d_R_shovels_3 : decode prog_13_method_55_code 3 = .ok (.iload_n 1, 1) := by decide +kernel
theorem d_R_shovels_4 : decode prog_13_method_55_code 4 = .ok (.if_icmp .ge 49, 3) := by decide +kernel
theorem d_R_shovels_7 : decode prog_13_method_55_code 7 = .ok (.aload_n 0, 1) := by decide +kernel
theorem d_R_shovels_8 : decode prog_13_method_55_code 8 = .ok (.getfield 7, 3) := by decide +kernel
theorem d_R_shovels_11 : decode prog_13_method_55_code 11 = .ok (.iconst 0, 1) := by decide +kernel
theorem d_R_shovels_12 : decode prog_13_method_55_code 12 = .ok (.aload_n 0, 1) := by decide +kernel
theorem d_R_shovels_13 : decode prog_13_method_55_code 13 = .ok (.getfield 7, 3) := by decide +kernel
theorem d_R_shovels_16 : decode prog_13_method_55_code 16 = .ok (.iconst 0, 1) := by decide +kernel
theorem d_R_shovels_17 : decode prog_13_method_55_code 17 = .ok (.iaload, 1) := by decide +kernel
theorem d_R_shovels_18 : decode prog_13_method_55_code 18 = .ok (.iconst 1, 1) := by decide +kernel
theorem d_R_shovels_19 : decode prog_13_method_55_code 19 = .ok (.isub, 1) := by decide +kernel
theorem d_R_shovels_20 : decode prog_13_method_55_code 20 = .ok (.iconst 1, 1) := by decide +kernel
theorem d_R_shovels_21 : decode prog_13_method_55_code 21 = .ok (.bipush 60, 2) := by decide +kernel
theorem d_R_shovels_23 : decode prog_13_method_55_code 23 = .ok (.invokestatic 127, 3) := by decide +kernel
theorem d_R_shovels_26 : decode prog_13_method_55_code 26 = .ok (.iastore, 1) := by decide +kernel
theorem d_R_shovels_27 : decode prog_13_method_55_code 27 = .ok (.aload_n 0, 1) := by decide +kernel
theorem d_R_shovels_28 : decode prog_13_method_55_code 28 = .ok (.getfield 7, 3) := by decide +kernel
theorem d_R_shovels_31 : decode prog_13_method_55_code 31 = .ok (.iconst 1, 1) := by decide +kernel
theorem d_R_shovels_32 : decode prog_13_method_55_code 32 = .ok (.aload_n 0, 1) := by decide +kernel
theorem d_R_shovels_33 : decode prog_13_method_55_code 33 = .ok (.getfield 7, 3) := by decide +kernel
theorem d_R_shovels_36 : decode prog_13_method_55_code 36 = .ok (.iconst 1, 1) := by decide +kernel
theorem d_R_shovels_37 : decode prog_13_method_55_code 37 = .ok (.iaload, 1) := by decide +kernel
theorem d_R_shovels_38 : decode prog_13_method_55_code 38 = .ok (.iconst 2, 1) := by decide +kernel
theorem d_R_shovels_39 : decode prog_13_method_55_code 39 = .ok (.isub, 1) := by decide +kernel
theorem d_R_shovels_40 : decode prog_13_method_55_code 40 = .ok (.iconst 0, 1) := by decide +kernel
theorem d_R_shovels_41 : decode prog_13_method_55_code 41 = .ok (.bipush 99, 2) := by decide +kernel
theorem d_R_shovels_43 : decode prog_13_method_55_code 43 = .ok (.invokestatic 127, 3) := by decide +kernel
theorem d_R_shovels_46 : decode prog_13_method_55_code 46 = .ok (.iastore, 1) := by decide +kernel
theorem d_R_shovels_47 : decode prog_13_method_55_code 47 = .ok (.iinc 2 1, 3) := by decide +kernel
theorem d_R_shovels_50 : decode prog_13_method_55_code 50 = .ok (.goto (-48), 3) := by decide +kernel
theorem d_R_shovels_53 : decode prog_13_method_55_code 53 = .ok (.return_, 1) := by decide +kernel
theorem d_R_shovel_0 : decode prog_13_method_56_code 0 = .ok (.iload_n 1, 1) := by decide +kernel
theorem d_R_shovel_1 : decode prog_13_method_56_code 1 = .ok (.iconst 1, 1) := by decide +kernel
theorem d_R_shovel_2 : decode prog_13_method_56_code 2 = .ok (.bipush 20, 2) := by decide +kernel
theorem d_R_shovel_4 : decode prog_13_method_56_code 4 = .ok (.invokestatic 51, 3) := by decide +kernel
theorem d_R_shovel_7 : decode prog_13_method_56_code 7 = .ok (.ifCond .ne 9, 3) := by decide +kernel
theorem d_R_shovel_10 : decode prog_13_method_56_code 10 = .ok (.aload_n 0, 1) := by decide +kernel
theorem d_R_shovel_11 : decode prog_13_method_56_code 11 = .ok (.iconst 1, 1) := by decide +kernel
theorem d_R_shovel_12 : decode prog_13_method_56_code 12 = .ok (.invokevirtual 55, 3) := by decide +kernel
theorem d_R_shovel_15 : decode prog_13_method_56_code 15 = .ok (.ireturn, 1) := by decide +kernel
theorem d_R_shovel_16 : decode prog_13_method_56_code 16 = .ok (.aload_n 0, 1) := by decide +kernel
theorem d_R_shovel_17 : decode prog_13_method_56_code 17 = .ok (.iload_n 1, 1) := by decide +kernel
theorem d_R_shovel_18 : decode prog_13_method_56_code 18 = .ok (.invokevirtual 190, 3) := by decide +kernel
theorem d_R_shovel_21 : decode prog_13_method_56_code 21 = .ok (.aload_n 0, 1) := by decide +kernel
theorem d_R_shovel_22 : decode prog_13_method_56_code 22 = .ok (.getfield 7, 3) := by decide +kernel
theorem d_R_shovel_25 : decode prog_13_method_56_code 25 = .ok (.iconst 0, 1) := by decide +kernel
theorem d_R_shovel_26 : decode prog_13_method_56_code 26 = .ok (.iaload, 1) := by decide +kernel
theorem d_R_shovel_27 : decode prog_13_method_56_code 27 = .ok (.ireturn, 1) := by decide +kernel
theorem d_R_seed_0 : decode prog_13_method_57_code 0 = .ok (.aload_n 0, 1) := by decide +kernel
theorem d_R_seed_1 : decode prog_13_method_57_code 1 = .ok (.bipush 8, 2) := by decide +kernel
theorem d_R_seed_3 : decode prog_13_method_57_code 3 = .ok (.iload_n 1, 1) := by decide +kernel
theorem d_R_seed_4 : decode prog_13_method_57_code 4 = .ok (.invokevirtual 171, 3) := by decide +kernel
theorem d_R_seed_7 : decode prog_13_method_57_code 7 = .ok (.ireturn, 1) := by decide +kernel
theorem d_R_now_0 : decode prog_13_method_58_code 0 = .ok (.iload_n 1, 1) := by decide +kernel
theorem d_R_now_1 : decode prog_13_method_58_code 1 = .ok (.tableswitch 42 0 2 #[27, 32, 37], 27) := by decide +kernel
theorem d_R_now_28 : decode prog_13_method_58_code 28 = .ok (.aload_n 0, 1) := by decide +kernel
theorem d_R_now_29 : decode prog_13_method_58_code 29 = .ok (.invokevirtual 139, 3) := by decide +kernel
theorem d_R_now_32 : decode prog_13_method_58_code 32 = .ok (.ireturn, 1) := by decide +kernel
theorem d_R_now_33 : decode prog_13_method_58_code 33 = .ok (.aload_n 0, 1) := by decide +kernel
theorem d_R_now_34 : decode prog_13_method_58_code 34 = .ok (.invokevirtual 142, 3) := by decide +kernel
theorem d_R_now_37 : decode prog_13_method_58_code 37 = .ok (.ireturn, 1) := by decide +kernel
theorem d_R_now_38 : decode prog_13_method_58_code 38 = .ok (.aload_n 0, 1) := by decide +kernel
theorem d_R_now_39 : decode prog_13_method_58_code 39 = .ok (.invokevirtual 145, 3) := by decide +kernel
theorem d_R_now_42 : decode prog_13_method_58_code 42 = .ok (.ireturn, 1) := by decide +kernel
theorem d_R_now_43 : decode prog_13_method_58_code 43 = .ok (.aload_n 0, 1) := by decide +kernel
theorem d_R_now_44 : decode prog_13_method_58_code 44 = .ok (.iconst 1, 1) := by decide +kernel
theorem d_R_now_45 : decode prog_13_method_58_code 45 = .ok (.invokevirtual 55, 3) := by decide +kernel
theorem d_R_now_48 : decode prog_13_method_58_code 48 = .ok (.ireturn, 1) := by decide +kernel
theorem d_R_would_0 : decode prog_13_method_59_code 0 = .ok (.iload_n 1, 1) := by decide +kernel
theorem d_R_would_1 : decode prog_13_method_59_code 1 = .ok (.invokestatic 181, 3) := by decide +kernel
theorem d_R_would_4 : decode prog_13_method_59_code 4 = .ok (.ifCond .eq 12, 3) := by decide +kernel
theorem d_R_would_7 : decode prog_13_method_59_code 7 = .ok (.iload_n 2, 1) := by decide +kernel
theorem d_R_would_8 : decode prog_13_method_59_code 8 = .ok (.iconst 0, 1) := by decide +kernel
theorem d_R_would_9 : decode prog_13_method_59_code 9 = .ok (.iconst 4, 1) := by decide +kernel
theorem d_R_would_10 : decode prog_13_method_59_code 10 = .ok (.invokestatic 51, 3) := by decide +kernel
theorem d_R_would_13 : decode prog_13_method_59_code 13 = .ok (.ifCond .ne 9, 3) := by decide +kernel
theorem d_R_would_16 : decode prog_13_method_59_code 16 = .ok (.aload_n 0, 1) := by decide +kernel
theorem d_R_would_17 : decode prog_13_method_59_code 17 = .ok (.iconst 1, 1) := by decide +kernel
theorem d_R_would_18 : decode prog_13_method_59_code 18 = .ok (.invokevirtual 55, 3) := by decide +kernel
theorem d_R_would_21 : decode prog_13_method_59_code 21 = .ok (.ireturn, 1) := by decide +kernel
theorem d_R_would_22 : decode prog_13_method_59_code 22 = .ok (.aload_n 0, 1) := by decide +kernel
theorem d_R_would_23 : decode prog_13_method_59_code 23 = .ok (.invokevirtual 149, 3) := by decide +kernel
theorem d_R_would_26 : decode prog_13_method_59_code 26 = .ok (.aload_n 0, 1) := by decide +kernel
theorem d_R_would_27 : decode prog_13_method_59_code 27 = .ok (.iload_n 1, 1) := by decide +kernel
theorem d_R_would_28 : decode prog_13_method_59_code 28 = .ok (.invokevirtual 155, 3) := by decide +kernel
theorem d_R_would_31 : decode prog_13_method_59_code 31 = .ok (.istore_n 3, 1) := by decide +kernel
theorem d_R_would_32 : decode prog_13_method_59_code 32 = .ok (.iload_n 2, 1) := by decide +kernel
theorem d_R_would_33 : decode prog_13_method_59_code 33 = .ok (.ifCond .ne 12, 3) := by decide +kernel
theorem d_R_would_36 : decode prog_13_method_59_code 36 = .ok (.aload_n 0, 1) := by decide +kernel
theorem d_R_would_37 : decode prog_13_method_59_code 37 = .ok (.getfield 7, 3) := by decide +kernel
theorem d_R_would_40 : decode prog_13_method_59_code 40 = .ok (.iconst 2, 1) := by decide +kernel
theorem d_R_would_41 : decode prog_13_method_59_code 41 = .ok (.iaload, 1) := by decide +kernel
theorem d_R_would_42 : decode prog_13_method_59_code 42 = .ok (.goto 23, 3) := by decide +kernel
theorem d_R_would_45 : decode prog_13_method_59_code 45 = .ok (.iload_n 2, 1) := by decide +kernel
theorem d_R_would_46 : decode prog_13_method_59_code 46 = .ok (.iconst 1, 1) := by decide +kernel
theorem d_R_would_47 : decode prog_13_method_59_code 47 = .ok (.if_icmp .ne 12, 3) := by decide +kernel
theorem d_R_would_50 : decode prog_13_method_59_code 50 = .ok (.aload_n 0, 1) := by decide +kernel
theorem d_R_would_51 : decode prog_13_method_59_code 51 = .ok (.getfield 7, 3) := by decide +kernel
theorem d_R_would_54 : decode prog_13_method_59_code 54 = .ok (.iconst 0, 1) := by decide +kernel
theorem d_R_would_55 : decode prog_13_method_59_code 55 = .ok (.iaload, 1) := by decide +kernel
theorem d_R_would_56 : decode prog_13_method_59_code 56 = .ok (.goto 9, 3) := by decide +kernel
theorem d_R_would_59 : decode prog_13_method_59_code 59 = .ok (.aload_n 0, 1) := by decide +kernel
theorem d_R_would_60 : decode prog_13_method_59_code 60 = .ok (.getfield 7, 3) := by decide +kernel
theorem d_R_would_63 : decode prog_13_method_59_code 63 = .ok (.iconst 1, 1) := by decide +kernel
theorem d_R_would_64 : decode prog_13_method_59_code 64 = .ok (.iaload, 1) := by decide +kernel
theorem d_R_would_65 : decode prog_13_method_59_code 65 = .ok (.istore 4, 2) := by decide +kernel
theorem d_R_would_67 : decode prog_13_method_59_code 67 = .ok (.aload_n 0, 1) := by decide +kernel
theorem d_R_would_68 : decode prog_13_method_59_code 68 = .ok (.getfield 7, 3) := by decide +kernel
theorem d_R_would_71 : decode prog_13_method_59_code 71 = .ok (.iconst 2, 1) := by decide +kernel
theorem d_R_would_72 : decode prog_13_method_59_code 72 = .ok (.iaload, 1) := by decide +kernel
theorem d_R_would_73 : decode prog_13_method_59_code 73 = .ok (.aload_n 0, 1) := by decide +kernel
theorem d_R_would_74 : decode prog_13_method_59_code 74 = .ok (.getfield 7, 3) := by decide +kernel
theorem d_R_would_77 : decode prog_13_method_59_code 77 = .ok (.iconst 0, 1) := by decide +kernel
theorem d_R_would_78 : decode prog_13_method_59_code 78 = .ok (.iaload, 1) := by decide +kernel
theorem d_R_would_79 : decode prog_13_method_59_code 79 = .ok (.if_icmp .lt 7, 3) := by decide +kernel
theorem d_R_would_82 : decode prog_13_method_59_code 82 = .ok (.iconst 1, 1) := by decide +kernel
theorem d_R_would_83 : decode prog_13_method_59_code 83 = .ok (.goto 4, 3) := by decide +kernel
theorem d_R_would_86 : decode prog_13_method_59_code 86 = .ok (.iconst 0, 1) := by decide +kernel
theorem d_R_would_87 : decode prog_13_method_59_code 87 = .ok (.istore 5, 2) := by decide +kernel
theorem d_R_would_89 : decode prog_13_method_59_code 89 = .ok (.aload_n 0, 1) := by decide +kernel
theorem d_R_would_90 : decode prog_13_method_59_code 90 = .ok (.invokevirtual 158, 3) := by decide +kernel
theorem d_R_would_93 : decode prog_13_method_59_code 93 = .ok (.iload_n 2, 1) := by decide +kernel
theorem d_R_would_94 : decode prog_13_method_59_code 94 = .ok (.iconst 3, 1) := by decide +kernel
theorem d_R_would_95 : decode prog_13_method_59_code 95 = .ok (.if_icmp .ge 8, 3) := by decide +kernel
theorem d_R_would_98 : decode prog_13_method_59_code 98 = .ok (.iload 4, 2) := by decide +kernel
theorem d_R_would_100 : decode prog_13_method_59_code 100 = .ok (.goto 25, 3) := by decide +kernel
theorem d_R_would_103 : decode prog_13_method_59_code 103 = .ok (.iload_n 2, 1) := by decide +kernel
theorem d_R_would_104 : decode prog_13_method_59_code 104 = .ok (.iconst 3, 1) := by decide +kernel
theorem d_R_would_105 : decode prog_13_method_59_code 105 = .ok (.if_icmp .ne 10, 3) := by decide +kernel
theorem d_R_would_108 : decode prog_13_method_59_code 108 = .ok (.iload_n 3, 1) := by decide +kernel
theorem d_R_would_109 : decode prog_13_method_59_code 109 = .ok (.ifCond .eq 15, 3) := by decide +kernel
theorem d_R_would_112 : decode prog_13_method_59_code 112 = .ok (.goto 8, 3) := by decide +kernel
theorem d_R_would_115 : decode prog_13_method_59_code 115 = .ok (.iload 5, 2) := by decide +kernel
theorem d_R_would_117 : decode prog_13_method_59_code 117 = .ok (.ifCond .eq 7, 3) := by decide +kernel
theorem d_R_would_120 : decode prog_13_method_59_code 120 = .ok (.iconst 1, 1) := by decide +kernel
theorem d_R_would_121 : decode prog_13_method_59_code 121 = .ok (.goto 4, 3) := by decide +kernel
theorem d_R_would_124 : decode prog_13_method_59_code 124 = .ok (.iconst 0, 1) := by decide +kernel
theorem d_R_would_125 : decode prog_13_method_59_code 125 = .ok (.ireturn, 1) := by decide +kernel
theorem d_R_tens_0 : decode prog_13_method_60_code 0 = .ok (.iconst 1, 1) := by decide +kernel
theorem d_R_tens_1 : decode prog_13_method_60_code 1 = .ok (.istore_n 1, 1) := by decide +kernel
theorem d_R_tens_2 : decode prog_13_method_60_code 2 = .ok (.iconst 0, 1) := by decide +kernel
theorem d_R_tens_3 : decode prog_13_method_60_code 3 = .ok (.istore_n 2, 1) := by decide +kernel
theorem d_R_tens_4 : decode prog_13_method_60_code 4 = .ok (.iload_n 2, 1) := by decide +kernel
theorem d_R_tens_5 : decode prog_13_method_60_code 5 = .ok (.iload_n 0, 1) := by decide +kernel
theorem d_R_tens_6 : decode prog_13_method_60_code 6 = .ok (.if_icmp .ge 14, 3) := by decide +kernel
theorem d_R_tens_9 : decode prog_13_method_60_code 9 = .ok (.iload_n 1, 1) := by decide +kernel
theorem d_R_tens_10 : decode prog_13_method_60_code 10 = .ok (.bipush 10, 2) := by decide +kernel
theorem d_R_tens_12 : decode prog_13_method_60_code 12 = .ok (.imul, 1) := by decide +kernel
theorem d_R_tens_13 : decode prog_13_method_60_code 13 = .ok (.istore_n 1, 1) := by decide +kernel
theorem d_R_tens_14 : decode prog_13_method_60_code 14 = .ok (.iinc 2 1, 3) := by decide +kernel
theorem d_R_tens_17 : decode prog_13_method_60_code 17 = .ok (.goto (-13), 3) := by decide +kernel
theorem d_R_tens_20 : decode prog_13_method_60_code 20 = .ok (.iload_n 1, 1) := by decide +kernel
theorem d_R_tens_21 : decode prog_13_method_60_code 21 = .ok (.ireturn, 1) := by decide +kernel
theorem d_R_gasAt_0 : decode prog_13_method_61_code 0 = .ok (.iload_n 0, 1) := by decide +kernel
theorem d_R_gasAt_1 : decode prog_13_method_61_code 1 = .ok (.iload_n 2, 1) := by decide +kernel
theorem d_R_gasAt_2 : decode prog_13_method_61_code 2 = .ok (.iconst 1, 1) := by decide +kernel
theorem d_R_gasAt_3 : decode prog_13_method_61_code 3 = .ok (.isub, 1) := by decide +kernel
theorem d_R_gasAt_4 : decode prog_13_method_61_code 4 = .ok (.iload_n 1, 1) := by decide +kernel
theorem d_R_gasAt_5 : decode prog_13_method_61_code 5 = .ok (.isub, 1) := by decide +kernel
theorem d_R_gasAt_6 : decode prog_13_method_61_code 6 = .ok (.invokestatic 194, 3) := by decide +kernel
theorem d_R_gasAt_9 : decode prog_13_method_61_code 9 = .ok (.idiv, 1) := by decide +kernel
theorem d_R_gasAt_10 : decode prog_13_method_61_code 10 = .ok (.bipush 10, 2) := by decide +kernel
theorem d_R_gasAt_12 : decode prog_13_method_61_code 12 = .ok (.irem, 1) := by decide +kernel
theorem d_R_gasAt_13 : decode prog_13_method_61_code 13 = .ok (.ireturn, 1) := by decide +kernel
theorem d_R_triesRow_0 : decode prog_13_method_62_code 0 = .ok (.aload_n 0, 1) := by decide +kernel
theorem d_R_triesRow_1 : decode prog_13_method_62_code 1 = .ok (.invokevirtual 149, 3) := by decide +kernel
theorem d_R_triesRow_4 : decode prog_13_method_62_code 4 = .ok (.iconst 0, 1) := by decide +kernel
theorem d_R_triesRow_5 : decode prog_13_method_62_code 5 = .ok (.istore_n 3, 1) := by decide +kernel
theorem d_R_triesRow_6 : decode prog_13_method_62_code 6 = .ok (.iload_n 3, 1) := by decide +kernel
theorem d_R_triesRow_7 : decode prog_13_method_62_code 7 = .ok (.iload_n 2, 1) := by decide +kernel
theorem d_R_triesRow_8 : decode prog_13_method_62_code 8 = .ok (.if_icmp .ge 28, 3) := by decide +kernel
theorem d_R_triesRow_11 : decode prog_13_method_62_code 11 = .ok (.aload_n 0, 1) := by decide +kernel
theorem d_R_triesRow_12 : decode prog_13_method_62_code 12 = .ok (.invokevirtual 152, 3) := by decide +kernel
theorem d_R_triesRow_15 : decode prog_13_method_62_code 15 = .ok (.ifCond .ne 21, 3) := by decide +kernel
theorem d_R_triesRow_18 : decode prog_13_method_62_code 18 = .ok (.aload_n 0, 1) := by decide +kernel
theorem d_R_triesRow_19 : decode prog_13_method_62_code 19 = .ok (.iload_n 1, 1) := by decide +kernel
theorem d_R_triesRow_20 : decode prog_13_method_62_code 20 = .ok (.iload_n 3, 1) := by decide +kernel
theorem d_R_triesRow_21 : decode prog_13_method_62_code 21 = .ok (.iload_n 2, 1) := by decide +kernel
theorem d_R_triesRow_22 : decode prog_13_method_62_code 22 = .ok (.invokestatic 197, 3) := by decide +kernel
theorem d_R_triesRow_25 : decode prog_13_method_62_code 25 = .ok (.invokevirtual 155, 3) := by decide +kernel
theorem d_R_triesRow_28 : decode prog_13_method_62_code 28 = .ok (.istore 4, 2) := by decide +kernel
theorem d_R_triesRow_30 : decode prog_13_method_62_code 30 = .ok (.iinc 3 1, 3) := by decide +kernel
theorem d_R_triesRow_33 : decode prog_13_method_62_code 33 = .ok (.goto (-27), 3) := by decide +kernel
theorem d_R_triesRow_36 : decode prog_13_method_62_code 36 = .ok (.aload_n 0, 1) := by decide +kernel
theorem d_R_triesRow_37 : decode prog_13_method_62_code 37 = .ok (.aload_n 0, 1) := by decide +kernel
theorem d_R_triesRow_38 : decode prog_13_method_62_code 38 = .ok (.invokevirtual 152, 3) := by decide +kernel
theorem d_R_triesRow_41 : decode prog_13_method_62_code 41 = .ok (.ifCond .eq 7, 3) := by decide +kernel
theorem d_R_triesRow_44 : decode prog_13_method_62_code 44 = .ok (.iload_n 3, 1) := by decide +kernel
theorem d_R_triesRow_45 : decode prog_13_method_62_code 45 = .ok (.goto 4, 3) := by decide +kernel
theorem d_R_triesRow_48 : decode prog_13_method_62_code 48 = .ok (.iconst 0, 1) := by decide +kernel
theorem d_R_triesRow_49 : decode prog_13_method_62_code 49 = .ok (.putfield 200, 3) := by decide +kernel
theorem d_R_triesRow_52 : decode prog_13_method_62_code 52 = .ok (.aload_n 0, 1) := by decide +kernel
theorem d_R_triesRow_53 : decode prog_13_method_62_code 53 = .ok (.aload_n 0, 1) := by decide +kernel
theorem d_R_triesRow_54 : decode prog_13_method_62_code 54 = .ok (.getfield 7, 3) := by decide +kernel
theorem d_R_triesRow_57 : decode prog_13_method_62_code 57 = .ok (.iconst 2, 1) := by decide +kernel
theorem d_R_triesRow_58 : decode prog_13_method_62_code 58 = .ok (.iaload, 1) := by decide +kernel
theorem d_R_triesRow_59 : decode prog_13_method_62_code 59 = .ok (.aload_n 0, 1) := by decide +kernel
theorem d_R_triesRow_60 : decode prog_13_method_62_code 60 = .ok (.getfield 7, 3) := by decide +kernel
theorem d_R_triesRow_63 : decode prog_13_method_62_code 63 = .ok (.iconst 0, 1) := by decide +kernel
theorem d_R_triesRow_64 : decode prog_13_method_62_code 64 = .ok (.iaload, 1) := by decide +kernel
theorem d_R_triesRow_65 : decode prog_13_method_62_code 65 = .ok (.isub, 1) := by decide +kernel
theorem d_R_triesRow_66 : decode prog_13_method_62_code 66 = .ok (.putfield 203, 3) := by decide +kernel
theorem d_R_triesRow_69 : decode prog_13_method_62_code 69 = .ok (.aload_n 0, 1) := by decide +kernel
theorem d_R_triesRow_70 : decode prog_13_method_62_code 70 = .ok (.invokevirtual 158, 3) := by decide +kernel
theorem d_R_triesRow_73 : decode prog_13_method_62_code 73 = .ok (.return_, 1) := by decide +kernel
theorem d_R_plan_0 : decode prog_13_method_63_code 0 = .ok (.iload_n 1, 1) := by decide +kernel
theorem d_R_plan_1 : decode prog_13_method_63_code 1 = .ok (.iconst 1, 1) := by decide +kernel
theorem d_R_plan_2 : decode prog_13_method_63_code 2 = .ok (.iconst 4, 1) := by decide +kernel
theorem d_R_plan_3 : decode prog_13_method_63_code 3 = .ok (.invokestatic 51, 3) := by decide +kernel
theorem d_R_plan_6 : decode prog_13_method_63_code 6 = .ok (.ifCond .eq 15, 3) := by decide +kernel
theorem d_R_plan_9 : decode prog_13_method_63_code 9 = .ok (.iload_n 2, 1) := by decide +kernel
theorem d_R_plan_10 : decode prog_13_method_63_code 10 = .ok (.bipush (-2), 2) := by decide +kernel
theorem d_R_plan_12 : decode prog_13_method_63_code 12 = .ok (.iload_n 1, 1) := by decide +kernel
theorem d_R_plan_13 : decode prog_13_method_63_code 13 = .ok (.iconst 1, 1) := by decide +kernel
theorem d_R_plan_14 : decode prog_13_method_63_code 14 = .ok (.isub, 1) := by decide +kernel
theorem d_R_plan_15 : decode prog_13_method_63_code 15 = .ok (.invokestatic 51, 3) := by decide +kernel
theorem d_R_plan_18 : decode prog_13_method_63_code 18 = .ok (.ifCond .ne 9, 3) := by decide +kernel
theorem d_R_plan_21 : decode prog_13_method_63_code 21 = .ok (.aload_n 0, 1) := by decide +kernel
theorem d_R_plan_22 : decode prog_13_method_63_code 22 = .ok (.iconst 1, 1) := by decide +kernel
theorem d_R_plan_23 : decode prog_13_method_63_code 23 = .ok (.invokevirtual 55, 3) := by decide +kernel
theorem d_R_plan_26 : decode prog_13_method_63_code 26 = .ok (.ireturn, 1) := by decide +kernel
theorem d_R_plan_27 : decode prog_13_method_63_code 27 = .ok (.aload_n 0, 1) := by decide +kernel
theorem d_R_plan_28 : decode prog_13_method_63_code 28 = .ok (.invokevirtual 152, 3) := by decide +kernel
theorem d_R_plan_31 : decode prog_13_method_63_code 31 = .ok (.ifCond .eq 9, 3) := by decide +kernel
theorem d_R_plan_34 : decode prog_13_method_63_code 34 = .ok (.aload_n 0, 1) := by decide +kernel
theorem d_R_plan_35 : decode prog_13_method_63_code 35 = .ok (.iconst 3, 1) := by decide +kernel
theorem d_R_plan_36 : decode prog_13_method_63_code 36 = .ok (.invokevirtual 55, 3) := by decide +kernel
theorem d_R_plan_39 : decode prog_13_method_63_code 39 = .ok (.ireturn, 1) := by decide +kernel
theorem d_R_plan_40 : decode prog_13_method_63_code 40 = .ok (.iconst (-1), 1) := by decide +kernel
theorem d_R_plan_41 : decode prog_13_method_63_code 41 = .ok (.istore_n 3, 1) := by decide +kernel
theorem d_R_plan_42 : decode prog_13_method_63_code 42 = .ok (.iconst 0, 1) := by decide +kernel
theorem d_R_plan_43 : decode prog_13_method_63_code 43 = .ok (.istore 4, 2) := by decide +kernel
theorem d_R_plan_45 : decode prog_13_method_63_code 45 = .ok (.iconst 0, 1) := by decide +kernel
theorem d_R_plan_46 : decode prog_13_method_63_code 46 = .ok (.istore 5, 2) := by decide +kernel
theorem d_R_plan_48 : decode prog_13_method_63_code 48 = .ok (.iload_n 1, 1) := by decide +kernel
theorem d_R_plan_49 : decode prog_13_method_63_code 49 = .ok (.invokestatic 194, 3) := by decide +kernel
theorem d_R_plan_52 : decode prog_13_method_63_code 52 = .ok (.istore 6, 2) := by decide +kernel
theorem d_R_plan_54 : decode prog_13_method_63_code 54 = .ok (.iconst 0, 1) := by decide +kernel
theorem d_R_plan_55 : decode prog_13_method_63_code 55 = .ok (.istore 7, 2) := by decide +kernel
theorem d_R_plan_57 : decode prog_13_method_63_code 57 = .ok (.iload 7, 2) := by decide +kernel
theorem d_R_plan_59 : decode prog_13_method_63_code 59 = .ok (.iload 6, 2) := by decide +kernel
theorem d_R_plan_61 : decode prog_13_method_63_code 61 = .ok (.if_icmp .ge 102, 3) := by decide +kernel
theorem d_R_plan_64 : decode prog_13_method_63_code 64 = .ok (.aload_n 0, 1) := by decide +kernel
theorem d_R_plan_65 : decode prog_13_method_63_code 65 = .ok (.iload 7, 2) := by decide +kernel
theorem d_R_plan_67 : decode prog_13_method_63_code 67 = .ok (.iload_n 1, 1) := by decide +kernel
theorem d_R_plan_68 : decode prog_13_method_63_code 68 = .ok (.invokevirtual 206, 3) := by decide +kernel
theorem d_R_plan_71 : decode prog_13_method_63_code 71 = .ok (.aload_n 0, 1) := by decide +kernel
theorem d_R_plan_72 : decode prog_13_method_63_code 72 = .ok (.getfield 200, 3) := by decide +kernel
theorem d_R_plan_75 : decode prog_13_method_63_code 75 = .ok (.ifCond .le 21, 3) := by decide +kernel
theorem d_R_plan_78 : decode prog_13_method_63_code 78 = .ok (.iload 4, 2) := by decide +kernel
theorem d_R_plan_80 : decode prog_13_method_63_code 80 = .ok (.ifCond .eq 12, 3) := by decide +kernel
theorem d_R_plan_83 : decode prog_13_method_63_code 83 = .ok (.aload_n 0, 1) := by decide +kernel
theorem d_R_plan_84 : decode prog_13_method_63_code 84 = .ok (.getfield 200, 3) := by decide +kernel
theorem d_R_plan_87 : decode prog_13_method_63_code 87 = .ok (.iload 4, 2) := by decide +kernel
theorem d_R_plan_89 : decode prog_13_method_63_code 89 = .ok (.if_icmp .ge 7, 3) := by decide +kernel
theorem d_R_plan_92 : decode prog_13_method_63_code 92 = .ok (.iconst 1, 1) := by decide +kernel
theorem d_R_plan_93 : decode prog_13_method_63_code 93 = .ok (.goto 4, 3) := by decide +kernel
theorem d_R_plan_96 : decode prog_13_method_63_code 96 = .ok (.iconst 0, 1) := by decide +kernel
theorem d_R_plan_97 : decode prog_13_method_63_code 97 = .ok (.istore 8, 2) := by decide +kernel
theorem d_R_plan_99 : decode prog_13_method_63_code 99 = .ok (.aload_n 0, 1) := by decide +kernel
theorem d_R_plan_100 : decode prog_13_method_63_code 100 = .ok (.getfield 200, 3) := by decide +kernel
theorem d_R_plan_103 : decode prog_13_method_63_code 103 = .ok (.ifCond .ne 21, 3) := by decide +kernel
theorem d_R_plan_106 : decode prog_13_method_63_code 106 = .ok (.iload 4, 2) := by decide +kernel
theorem d_R_plan_108 : decode prog_13_method_63_code 108 = .ok (.ifCond .ne 16, 3) := by decide +kernel
theorem d_R_plan_111 : decode prog_13_method_63_code 111 = .ok (.aload_n 0, 1) := by decide +kernel
theorem d_R_plan_112 : decode prog_13_method_63_code 112 = .ok (.getfield 203, 3) := by decide +kernel
theorem d_R_plan_115 : decode prog_13_method_63_code 115 = .ok (.iload 5, 2) := by decide +kernel
theorem d_R_plan_117 : decode prog_13_method_63_code 117 = .ok (.if_icmp .le 7, 3) := by decide +kernel
theorem d_R_plan_120 : decode prog_13_method_63_code 120 = .ok (.iconst 1, 1) := by decide +kernel
theorem d_R_plan_121 : decode prog_13_method_63_code 121 = .ok (.goto 4, 3) := by decide +kernel
theorem d_R_plan_124 : decode prog_13_method_63_code 124 = .ok (.iconst 0, 1) := by decide +kernel
theorem d_R_plan_125 : decode prog_13_method_63_code 125 = .ok (.istore 9, 2) := by decide +kernel
theorem d_R_plan_127 : decode prog_13_method_63_code 127 = .ok (.iload_n 3, 1) := by decide +kernel
theorem d_R_plan_128 : decode prog_13_method_63_code 128 = .ok (.iconst (-1), 1) := by decide +kernel
theorem d_R_plan_129 : decode prog_13_method_63_code 129 = .ok (.if_icmp .eq 13, 3) := by decide +kernel
theorem d_R_plan_132 : decode prog_13_method_63_code 132 = .ok (.iload 8, 2) := by decide +kernel
theorem d_R_plan_134 : decode prog_13_method_63_code 134 = .ok (.ifCond .ne 8, 3) := by decide +kernel
theorem d_R_plan_137 : decode prog_13_method_63_code 137 = .ok (.iload 9, 2) := by decide +kernel
theorem d_R_plan_139 : decode prog_13_method_63_code 139 = .ok (.ifCond .eq 18, 3) := by decide +kernel
theorem d_R_plan_142 : decode prog_13_method_63_code 142 = .ok (.iload 7, 2) := by decide +kernel
theorem d_R_plan_144 : decode prog_13_method_63_code 144 = .ok (.istore_n 3, 1) := by decide +kernel
theorem d_R_plan_145 : decode prog_13_method_63_code 145 = .ok (.aload_n 0, 1) := by decide +kernel
theorem d_R_plan_146 : decode prog_13_method_63_code 146 = .ok (.getfield 200, 3) := by decide +kernel
theorem d_R_plan_149 : decode prog_13_method_63_code 149 = .ok (.istore 4, 2) := by decide +kernel
theorem d_R_plan_151 : decode prog_13_method_63_code 151 = .ok (.aload_n 0, 1) := by decide +kernel
theorem d_R_plan_152 : decode prog_13_method_63_code 152 = .ok (.getfield 203, 3) := by decide +kernel
theorem d_R_plan_155 : decode prog_13_method_63_code 155 = .ok (.istore 5, 2) := by decide +kernel
theorem d_R_plan_157 : decode prog_13_method_63_code 157 = .ok (.iinc 7 1, 3) := by decide +kernel
theorem d_R_plan_160 : decode prog_13_method_63_code 160 = .ok (.goto (-103), 3) := by decide +kernel
theorem d_R_plan_163 : decode prog_13_method_63_code 163 = .ok (.iload_n 2, 1) := by decide +kernel
theorem d_R_plan_164 : decode prog_13_method_63_code 164 = .ok (.bipush (-2), 2) := by decide +kernel
theorem d_R_plan_166 : decode prog_13_method_63_code 166 = .ok (.if_icmp .ne 8, 3) := by decide +kernel
theorem d_R_plan_169 : decode prog_13_method_63_code 169 = .ok (.iload 4, 2) := by decide +kernel
theorem d_R_plan_171 : decode prog_13_method_63_code 171 = .ok (.goto 19, 3) := by decide +kernel
theorem d_R_plan_174 : decode prog_13_method_63_code 174 = .ok (.iload_n 2, 1) := by decide +kernel
theorem d_R_plan_175 : decode prog_13_method_63_code 175 = .ok (.iconst (-1), 1) := by decide +kernel
theorem d_R_plan_176 : decode prog_13_method_63_code 176 = .ok (.if_icmp .ne 8, 3) := by decide +kernel
theorem d_R_plan_179 : decode prog_13_method_63_code 179 = .ok (.iload 5, 2) := by decide +kernel
theorem d_R_plan_181 : decode prog_13_method_63_code 181 = .ok (.goto 9, 3) := by decide +kernel
theorem d_R_plan_184 : decode prog_13_method_63_code 184 = .ok (.iload_n 3, 1) := by decide +kernel
theorem d_R_plan_185 : decode prog_13_method_63_code 185 = .ok (.iload_n 2, 1) := by decide +kernel
theorem d_R_plan_186 : decode prog_13_method_63_code 186 = .ok (.iload_n 1, 1) := by decide +kernel
theorem d_R_plan_187 : decode prog_13_method_63_code 187 = .ok (.invokestatic 197, 3) := by decide +kernel
theorem d_R_plan_190 : decode prog_13_method_63_code 190 = .ok (.ireturn, 1) := by decide +kernel
theorem d_R_steady_0 : decode prog_13_method_64_code 0 = .ok (.iload_n 1, 1) := by decide +kernel
theorem d_R_steady_1 : decode prog_13_method_64_code 1 = .ok (.invokestatic 181, 3) := by decide +kernel
theorem d_R_steady_4 : decode prog_13_method_64_code 4 = .ok (.ifCond .ne 9, 3) := by decide +kernel
theorem d_R_steady_7 : decode prog_13_method_64_code 7 = .ok (.aload_n 0, 1) := by decide +kernel
theorem d_R_steady_8 : decode prog_13_method_64_code 8 = .ok (.iconst 1, 1) := by decide +kernel
theorem d_R_steady_9 : decode prog_13_method_64_code 9 = .ok (.invokevirtual 55, 3) := by decide +kernel
theorem d_R_steady_12 : decode prog_13_method_64_code 12 = .ok (.ireturn, 1) := by decide +kernel
theorem d_R_steady_13 : decode prog_13_method_64_code 13 = .ok (.aload_n 0, 1) := by decide +kernel
theorem d_R_steady_14 : decode prog_13_method_64_code 14 = .ok (.iload_n 1, 1) := by decide +kernel
theorem d_R_steady_15 : decode prog_13_method_64_code 15 = .ok (.bipush 60, 2) := by decide +kernel
theorem d_R_steady_17 : decode prog_13_method_64_code 17 = .ok (.invokevirtual 209, 3) := by decide +kernel
theorem d_R_steady_20 : decode prog_13_method_64_code 20 = .ok (.istore_n 2, 1) := by decide +kernel
theorem d_R_steady_21 : decode prog_13_method_64_code 21 = .ok (.iload_n 2, 1) := by decide +kernel
theorem d_R_steady_22 : decode prog_13_method_64_code 22 = .ok (.iconst (-1), 1) := by decide +kernel
theorem d_R_steady_23 : decode prog_13_method_64_code 23 = .ok (.if_icmp .ne 11, 3) := by decide +kernel
theorem d_R_steady_26 : decode prog_13_method_64_code 26 = .ok (.aload_n 0, 1) := by decide +kernel
theorem d_R_steady_27 : decode prog_13_method_64_code 27 = .ok (.iconst 2, 1) := by decide +kernel
theorem d_R_steady_28 : decode prog_13_method_64_code 28 = .ok (.invokevirtual 55, 3) := by decide +kernel
theorem d_R_steady_31 : decode prog_13_method_64_code 31 = .ok (.goto 4, 3) := by decide +kernel
theorem d_R_steady_34 : decode prog_13_method_64_code 34 = .ok (.iload_n 2, 1) := by decide +kernel
theorem d_R_steady_35 : decode prog_13_method_64_code 35 = .ok (.ireturn, 1) := by decide +kernel
theorem d_R_least_0 : decode prog_13_method_65_code 0 = .ok (.iconst 0, 1) := by decide +kernel
theorem d_R_least_1 : decode prog_13_method_65_code 1 = .ok (.istore_n 1, 1) := by decide +kernel
theorem d_R_least_2 : decode prog_13_method_65_code 2 = .ok (.iload_n 1, 1) := by decide +kernel
theorem d_R_least_3 : decode prog_13_method_65_code 3 = .ok (.bipush 9, 2) := by decide +kernel
theorem d_R_least_5 : decode prog_13_method_65_code 5 = .ok (.if_icmp .gt 22, 3) := by decide +kernel
theorem d_R_least_8 : decode prog_13_method_65_code 8 = .ok (.aload_n 0, 1) := by decide +kernel
theorem d_R_least_9 : decode prog_13_method_65_code 9 = .ok (.iload_n 1, 1) := by decide +kernel
theorem d_R_least_10 : decode prog_13_method_65_code 10 = .ok (.bipush 60, 2) := by decide +kernel
theorem d_R_least_12 : decode prog_13_method_65_code 12 = .ok (.invokevirtual 209, 3) := by decide +kernel
theorem d_R_least_15 : decode prog_13_method_65_code 15 = .ok (.iconst (-1), 1) := by decide +kernel
theorem d_R_least_16 : decode prog_13_method_65_code 16 = .ok (.if_icmp .eq 5, 3) := by decide +kernel
theorem d_R_least_19 : decode prog_13_method_65_code 19 = .ok (.iload_n 1, 1) := by decide +kernel
theorem d_R_least_20 : decode prog_13_method_65_code 20 = .ok (.ireturn, 1) := by decide +kernel
theorem d_R_least_21 : decode prog_13_method_65_code 21 = .ok (.iinc 1 1, 3) := by decide +kernel
theorem d_R_least_24 : decode prog_13_method_65_code 24 = .ok (.goto (-22), 3) := by decide +kernel
theorem d_R_least_27 : decode prog_13_method_65_code 27 = .ok (.aload_n 0, 1) := by decide +kernel
theorem d_R_least_28 : decode prog_13_method_65_code 28 = .ok (.iconst 2, 1) := by decide +kernel
theorem d_R_least_29 : decode prog_13_method_65_code 29 = .ok (.invokevirtual 55, 3) := by decide +kernel
theorem d_R_least_32 : decode prog_13_method_65_code 32 = .ok (.ireturn, 1) := by decide +kernel
theorem d_R_isTime_0 : decode prog_13_method_66_code 0 = .ok (.iload_n 0, 1) := by decide +kernel
theorem d_R_isTime_1 : decode prog_13_method_66_code 1 = .ok (.iconst 1, 1) := by decide +kernel
theorem d_R_isTime_2 : decode prog_13_method_66_code 2 = .ok (.bipush 60, 2) := by decide +kernel
theorem d_R_isTime_4 : decode prog_13_method_66_code 4 = .ok (.invokestatic 51, 3) := by decide +kernel
theorem d_R_isTime_7 : decode prog_13_method_66_code 7 = .ok (.ireturn, 1) := by decide +kernel
theorem d_R_bitsOf_0 : decode prog_13_method_67_code 0 = .ok (.iconst 0, 1) := by decide +kernel
theorem d_R_bitsOf_1 : decode prog_13_method_67_code 1 = .ok (.istore_n 1, 1) := by decide +kernel
theorem d_R_bitsOf_2 : decode prog_13_method_67_code 2 = .ok (.iload_n 0, 1) := by decide +kernel
theorem d_R_bitsOf_3 : decode prog_13_method_67_code 3 = .ok (.istore_n 2, 1) := by decide +kernel
theorem d_R_bitsOf_4 : decode prog_13_method_67_code 4 = .ok (.iload_n 2, 1) := by decide +kernel
theorem d_R_bitsOf_5 : decode prog_13_method_67_code 5 = .ok (.ifCond .eq 15, 3) := by decide +kernel
theorem d_R_bitsOf_8 : decode prog_13_method_67_code 8 = .ok (.iinc 1 1, 3) := by decide +kernel
theorem d_R_bitsOf_11 : decode prog_13_method_67_code 11 = .ok (.iload_n 2, 1) := by decide +kernel
theorem d_R_bitsOf_12 : decode prog_13_method_67_code 12 = .ok (.iload_n 2, 1) := by decide +kernel
theorem d_R_bitsOf_13 : decode prog_13_method_67_code 13 = .ok (.iconst 1, 1) := by decide +kernel
theorem d_R_bitsOf_14 : decode prog_13_method_67_code 14 = .ok (.isub, 1) := by decide +kernel
theorem d_R_bitsOf_15 : decode prog_13_method_67_code 15 = .ok (.iand, 1) := by decide +kernel
theorem d_R_bitsOf_16 : decode prog_13_method_67_code 16 = .ok (.istore_n 2, 1) := by decide +kernel
theorem d_R_bitsOf_17 : decode prog_13_method_67_code 17 = .ok (.goto (-13), 3) := by decide +kernel
theorem d_R_bitsOf_20 : decode prog_13_method_67_code 20 = .ok (.iload_n 1, 1) := by decide +kernel
theorem d_R_bitsOf_21 : decode prog_13_method_67_code 21 = .ok (.ireturn, 1) := by decide +kernel
theorem d_R_crew_0 : decode prog_13_method_68_code 0 = .ok (.iload_n 1, 1) := by decide +kernel
theorem d_R_crew_1 : decode prog_13_method_68_code 1 = .ok (.invokestatic 181, 3) := by decide +kernel
theorem d_R_crew_4 : decode prog_13_method_68_code 4 = .ok (.ifCond .eq 19, 3) := by decide +kernel
theorem d_R_crew_7 : decode prog_13_method_68_code 7 = .ok (.iload_n 2, 1) := by decide +kernel
theorem d_R_crew_8 : decode prog_13_method_68_code 8 = .ok (.invokestatic 212, 3) := by decide +kernel
theorem d_R_crew_11 : decode prog_13_method_68_code 11 = .ok (.ifCond .eq 12, 3) := by decide +kernel
theorem d_R_crew_14 : decode prog_13_method_68_code 14 = .ok (.iload_n 3, 1) := by decide +kernel
theorem d_R_crew_15 : decode prog_13_method_68_code 15 = .ok (.iconst 0, 1) := by decide +kernel
theorem d_R_crew_16 : decode prog_13_method_68_code 16 = .ok (.iconst 1, 1) := by decide +kernel
theorem d_R_crew_17 : decode prog_13_method_68_code 17 = .ok (.invokestatic 51, 3) := by decide +kernel
theorem d_R_crew_20 : decode prog_13_method_68_code 20 = .ok (.ifCond .ne 9, 3) := by decide +kernel
theorem d_R_crew_23 : decode prog_13_method_68_code 23 = .ok (.aload_n 0, 1) := by decide +kernel
theorem d_R_crew_24 : decode prog_13_method_68_code 24 = .ok (.iconst 1, 1) := by decide +kernel
theorem d_R_crew_25 : decode prog_13_method_68_code 25 = .ok (.invokevirtual 55, 3) := by decide +kernel
theorem d_R_crew_28 : decode prog_13_method_68_code 28 = .ok (.ireturn, 1) := by decide +kernel
theorem d_R_crew_29 : decode prog_13_method_68_code 29 = .ok (.iconst (-1), 1) := by decide +kernel
theorem d_R_crew_30 : decode prog_13_method_68_code 30 = .ok (.istore 4, 2) := by decide +kernel
theorem d_R_crew_32 : decode prog_13_method_68_code 32 = .ok (.iconst 0, 1) := by decide +kernel
theorem d_R_crew_33 : decode prog_13_method_68_code 33 = .ok (.istore 5, 2) := by decide +kernel
theorem d_R_crew_35 : decode prog_13_method_68_code 35 = .ok (.iload 5, 2) := by decide +kernel
theorem d_R_crew_37 : decode prog_13_method_68_code 37 = .ok (.iconst 1, 1) := by decide +kernel
theorem d_R_crew_38 : decode prog_13_method_68_code 38 = .ok (.aload_n 0, 1) := by decide +kernel
theorem d_R_crew_39 : decode prog_13_method_68_code 39 = .ok (.getfield 7, 3) := by decide +kernel
theorem d_R_crew_42 : decode prog_13_method_68_code 42 = .ok (.bipush 11, 2) := by decide +kernel
theorem d_R_crew_44 : decode prog_13_method_68_code 44 = .ok (.iaload, 1) := by decide +kernel
theorem d_R_crew_45 : decode prog_13_method_68_code 45 = .ok (.ishl, 1) := by decide +kernel
theorem d_R_crew_46 : decode prog_13_method_68_code 46 = .ok (.if_icmp .ge 53, 3) := by decide +kernel
theorem d_R_crew_49 : decode prog_13_method_68_code 49 = .ok (.iload 4, 2) := by decide +kernel
theorem d_R_crew_51 : decode prog_13_method_68_code 51 = .ok (.iconst (-1), 1) := by decide +kernel
theorem d_R_crew_52 : decode prog_13_method_68_code 52 = .ok (.if_icmp .eq 16, 3) := by decide +kernel
theorem d_R_crew_55 : decode prog_13_method_68_code 55 = .ok (.iload 5, 2) := by decide +kernel
theorem d_R_crew_57 : decode prog_13_method_68_code 57 = .ok (.invokestatic 215, 3) := by decide +kernel
theorem d_R_crew_60 : decode prog_13_method_68_code 60 = .ok (.iload 4, 2) := by decide +kernel
theorem d_R_crew_62 : decode prog_13_method_68_code 62 = .ok (.invokestatic 215, 3) := by decide +kernel
theorem d_R_crew_65 : decode prog_13_method_68_code 65 = .ok (.if_icmp .ge 28, 3) := by decide +kernel
theorem d_R_crew_68 : decode prog_13_method_68_code 68 = .ok (.aload_n 0, 1) := by decide +kernel
theorem d_R_crew_69 : decode prog_13_method_68_code 69 = .ok (.iload 5, 2) := by decide +kernel
theorem d_R_crew_71 : decode prog_13_method_68_code 71 = .ok (.putfield 22, 3) := by decide +kernel
theorem d_R_crew_74 : decode prog_13_method_68_code 74 = .ok (.aload_n 0, 1) := by decide +kernel
theorem d_R_crew_75 : decode prog_13_method_68_code 75 = .ok (.iload_n 1, 1) := by decide +kernel
theorem d_R_crew_76 : decode prog_13_method_68_code 76 = .ok (.iload_n 2, 1) := by decide +kernel
theorem d_R_crew_77 : decode prog_13_method_68_code 77 = .ok (.invokevirtual 209, 3) := by decide +kernel
theorem d_R_crew_80 : decode prog_13_method_68_code 80 = .ok (.iconst (-1), 1) := by decide +kernel
theorem d_R_crew_81 : decode prog_13_method_68_code 81 = .ok (.if_icmp .ne 8, 3) := by decide +kernel
theorem d_R_crew_84 : decode prog_13_method_68_code 84 = .ok (.iload 4, 2) := by decide +kernel
theorem d_R_crew_86 : decode prog_13_method_68_code 86 = .ok (.goto 5, 3) := by decide +kernel
theorem d_R_crew_89 : decode prog_13_method_68_code 89 = .ok (.iload 5, 2) := by decide +kernel
theorem d_R_crew_91 : decode prog_13_method_68_code 91 = .ok (.istore 4, 2) := by decide +kernel
theorem d_R_crew_93 : decode prog_13_method_68_code 93 = .ok (.iinc 5 1, 3) := by decide +kernel
theorem d_R_crew_96 : decode prog_13_method_68_code 96 = .ok (.goto (-61), 3) := by decide +kernel
theorem d_R_crew_99 : decode prog_13_method_68_code 99 = .ok (.aload_n 0, 1) := by decide +kernel
theorem d_R_crew_100 : decode prog_13_method_68_code 100 = .ok (.bipush 63, 2) := by decide +kernel
theorem d_R_crew_102 : decode prog_13_method_68_code 102 = .ok (.putfield 22, 3) := by decide +kernel
theorem d_R_crew_105 : decode prog_13_method_68_code 105 = .ok (.iload 4, 2) := by decide +kernel
theorem d_R_crew_107 : decode prog_13_method_68_code 107 = .ok (.iconst (-1), 1) := by decide +kernel
theorem d_R_crew_108 : decode prog_13_method_68_code 108 = .ok (.if_icmp .ne 9, 3) := by decide +kernel
theorem d_R_crew_111 : decode prog_13_method_68_code 111 = .ok (.aload_n 0, 1) := by decide +kernel
theorem d_R_crew_112 : decode prog_13_method_68_code 112 = .ok (.iconst 2, 1) := by decide +kernel
theorem d_R_crew_113 : decode prog_13_method_68_code 113 = .ok (.invokevirtual 55, 3) := by decide +kernel
theorem d_R_crew_116 : decode prog_13_method_68_code 116 = .ok (.ireturn, 1) := by decide +kernel
theorem d_R_crew_117 : decode prog_13_method_68_code 117 = .ok (.iload_n 3, 1) := by decide +kernel
theorem d_R_crew_118 : decode prog_13_method_68_code 118 = .ok (.ifCond .ne 11, 3) := by decide +kernel
theorem d_R_crew_121 : decode prog_13_method_68_code 121 = .ok (.iload 4, 2) := by decide +kernel
theorem d_R_crew_123 : decode prog_13_method_68_code 123 = .ok (.invokestatic 215, 3) := by decide +kernel
theorem d_R_crew_126 : decode prog_13_method_68_code 126 = .ok (.goto 5, 3) := by decide +kernel
theorem d_R_crew_129 : decode prog_13_method_68_code 129 = .ok (.iload 4, 2) := by decide +kernel
theorem d_R_crew_131 : decode prog_13_method_68_code 131 = .ok (.ireturn, 1) := by decide +kernel
theorem d_R_deepest_0 : decode prog_13_method_69_code 0 = .ok (.iload_n 1, 1) := by decide +kernel
theorem d_R_deepest_1 : decode prog_13_method_69_code 1 = .ok (.invokestatic 181, 3) := by decide +kernel
theorem d_R_deepest_4 : decode prog_13_method_69_code 4 = .ok (.ifCond .eq 10, 3) := by decide +kernel
theorem d_R_deepest_7 : decode prog_13_method_69_code 7 = .ok (.iload_n 2, 1) := by decide +kernel
theorem d_R_deepest_8 : decode prog_13_method_69_code 8 = .ok (.invokestatic 212, 3) := by decide +kernel
theorem d_R_deepest_11 : decode prog_13_method_69_code 11 = .ok (.ifCond .ne 9, 3) := by decide +kernel
theorem d_R_deepest_14 : decode prog_13_method_69_code 14 = .ok (.aload_n 0, 1) := by decide +kernel
theorem d_R_deepest_15 : decode prog_13_method_69_code 15 = .ok (.iconst 1, 1) := by decide +kernel
theorem d_R_deepest_16 : decode prog_13_method_69_code 16 = .ok (.invokevirtual 55, 3) := by decide +kernel
theorem d_R_deepest_19 : decode prog_13_method_69_code 19 = .ok (.ireturn, 1) := by decide +kernel
theorem d_R_deepest_20 : decode prog_13_method_69_code 20 = .ok (.aload_n 0, 1) := by decide +kernel
theorem d_R_deepest_21 : decode prog_13_method_69_code 21 = .ok (.invokevirtual 152, 3) := by decide +kernel
theorem d_R_deepest_24 : decode prog_13_method_69_code 24 = .ok (.ifCond .eq 9, 3) := by decide +kernel
theorem d_R_deepest_27 : decode prog_13_method_69_code 27 = .ok (.aload_n 0, 1) := by decide +kernel
theorem d_R_deepest_28 : decode prog_13_method_69_code 28 = .ok (.iconst 3, 1) := by decide +kernel
theorem d_R_deepest_29 : decode prog_13_method_69_code 29 = .ok (.invokevirtual 55, 3) := by decide +kernel
theorem d_R_deepest_32 : decode prog_13_method_69_code 32 = .ok (.ireturn, 1) := by decide +kernel
theorem d_R_deepest_33 : decode prog_13_method_69_code 33 = .ok (.aload_n 0, 1) := by decide +kernel
theorem d_R_deepest_34 : decode prog_13_method_69_code 34 = .ok (.getfield 7, 3) := by decide +kernel
theorem d_R_deepest_37 : decode prog_13_method_69_code 37 = .ok (.iconst 0, 1) := by decide +kernel
theorem d_R_deepest_38 : decode prog_13_method_69_code 38 = .ok (.iaload, 1) := by decide +kernel
theorem d_R_deepest_39 : decode prog_13_method_69_code 39 = .ok (.istore_n 3, 1) := by decide +kernel
theorem d_R_deepest_40 : decode prog_13_method_69_code 40 = .ok (.iconst (-1), 1) := by decide +kernel
theorem d_R_deepest_41 : decode prog_13_method_69_code 41 = .ok (.istore 4, 2) := by decide +kernel
theorem d_R_deepest_43 : decode prog_13_method_69_code 43 = .ok (.iconst 1, 1) := by decide +kernel
theorem d_R_deepest_44 : decode prog_13_method_69_code 44 = .ok (.istore 5, 2) := by decide +kernel
theorem d_R_deepest_46 : decode prog_13_method_69_code 46 = .ok (.iload 5, 2) := by decide +kernel
theorem d_R_deepest_48 : decode prog_13_method_69_code 48 = .ok (.bipush 60, 2) := by decide +kernel
theorem d_R_deepest_50 : decode prog_13_method_69_code 50 = .ok (.if_icmp .gt 36, 3) := by decide +kernel
theorem d_R_deepest_53 : decode prog_13_method_69_code 53 = .ok (.aload_n 0, 1) := by decide +kernel
theorem d_R_deepest_54 : decode prog_13_method_69_code 54 = .ok (.getfield 7, 3) := by decide +kernel
theorem d_R_deepest_57 : decode prog_13_method_69_code 57 = .ok (.iconst 0, 1) := by decide +kernel
theorem d_R_deepest_58 : decode prog_13_method_69_code 58 = .ok (.iload 5, 2) := by decide +kernel
theorem d_R_deepest_60 : decode prog_13_method_69_code 60 = .ok (.iastore, 1) := by decide +kernel
theorem d_R_deepest_61 : decode prog_13_method_69_code 61 = .ok (.aload_n 0, 1) := by decide +kernel
theorem d_R_deepest_62 : decode prog_13_method_69_code 62 = .ok (.iload_n 1, 1) := by decide +kernel
theorem d_R_deepest_63 : decode prog_13_method_69_code 63 = .ok (.iload_n 2, 1) := by decide +kernel
theorem d_R_deepest_64 : decode prog_13_method_69_code 64 = .ok (.invokevirtual 209, 3) := by decide +kernel
theorem d_R_deepest_67 : decode prog_13_method_69_code 67 = .ok (.iconst (-1), 1) := by decide +kernel
theorem d_R_deepest_68 : decode prog_13_method_69_code 68 = .ok (.if_icmp .ne 8, 3) := by decide +kernel
theorem d_R_deepest_71 : decode prog_13_method_69_code 71 = .ok (.iload 4, 2) := by decide +kernel
theorem d_R_deepest_73 : decode prog_13_method_69_code 73 = .ok (.goto 5, 3) := by decide +kernel
theorem d_R_deepest_76 : decode prog_13_method_69_code 76 = .ok (.iload 5, 2) := by decide +kernel
theorem d_R_deepest_78 : decode prog_13_method_69_code 78 = .ok (.istore 4, 2) := by decide +kernel
theorem d_R_deepest_80 : decode prog_13_method_69_code 80 = .ok (.iinc 5 1, 3) := by decide +kernel
theorem d_R_deepest_83 : decode prog_13_method_69_code 83 = .ok (.goto (-37), 3) := by decide +kernel
theorem d_R_deepest_86 : decode prog_13_method_69_code 86 = .ok (.aload_n 0, 1) := by decide +kernel
theorem d_R_deepest_87 : decode prog_13_method_69_code 87 = .ok (.getfield 7, 3) := by decide +kernel
theorem d_R_deepest_90 : decode prog_13_method_69_code 90 = .ok (.iconst 0, 1) := by decide +kernel
theorem d_R_deepest_91 : decode prog_13_method_69_code 91 = .ok (.iload_n 3, 1) := by decide +kernel
theorem d_R_deepest_92 : decode prog_13_method_69_code 92 = .ok (.iastore, 1) := by decide +kernel
theorem d_R_deepest_93 : decode prog_13_method_69_code 93 = .ok (.iload 4, 2) := by decide +kernel
theorem d_R_deepest_95 : decode prog_13_method_69_code 95 = .ok (.iconst (-1), 1) := by decide +kernel
theorem d_R_deepest_96 : decode prog_13_method_69_code 96 = .ok (.if_icmp .ne 11, 3) := by decide +kernel
theorem d_R_deepest_99 : decode prog_13_method_69_code 99 = .ok (.aload_n 0, 1) := by decide +kernel
theorem d_R_deepest_100 : decode prog_13_method_69_code 100 = .ok (.iconst 2, 1) := by decide +kernel
theorem d_R_deepest_101 : decode prog_13_method_69_code 101 = .ok (.invokevirtual 55, 3) := by decide +kernel
theorem d_R_deepest_104 : decode prog_13_method_69_code 104 = .ok (.goto 5, 3) := by decide +kernel
theorem d_R_deepest_107 : decode prog_13_method_69_code 107 = .ok (.iload 4, 2) := by decide +kernel
theorem d_R_deepest_109 : decode prog_13_method_69_code 109 = .ok (.ireturn, 1) := by decide +kernel
theorem d_R_strokes_0 : decode prog_13_method_70_code 0 = .ok (.iload_n 1, 1) := by decide +kernel
theorem d_R_strokes_1 : decode prog_13_method_70_code 1 = .ok (.invokestatic 181, 3) := by decide +kernel
theorem d_R_strokes_4 : decode prog_13_method_70_code 4 = .ok (.ifCond .eq 10, 3) := by decide +kernel
theorem d_R_strokes_7 : decode prog_13_method_70_code 7 = .ok (.iload_n 2, 1) := by decide +kernel
theorem d_R_strokes_8 : decode prog_13_method_70_code 8 = .ok (.invokestatic 212, 3) := by decide +kernel
theorem d_R_strokes_11 : decode prog_13_method_70_code 11 = .ok (.ifCond .ne 9, 3) := by decide +kernel
theorem d_R_strokes_14 : decode prog_13_method_70_code 14 = .ok (.aload_n 0, 1) := by decide +kernel
theorem d_R_strokes_15 : decode prog_13_method_70_code 15 = .ok (.iconst 1, 1) := by decide +kernel
theorem d_R_strokes_16 : decode prog_13_method_70_code 16 = .ok (.invokevirtual 55, 3) := by decide +kernel
theorem d_R_strokes_19 : decode prog_13_method_70_code 19 = .ok (.ireturn, 1) := by decide +kernel
theorem d_R_strokes_20 : decode prog_13_method_70_code 20 = .ok (.aload_n 0, 1) := by decide +kernel
theorem d_R_strokes_21 : decode prog_13_method_70_code 21 = .ok (.invokevirtual 152, 3) := by decide +kernel
theorem d_R_strokes_24 : decode prog_13_method_70_code 24 = .ok (.ifCond .eq 9, 3) := by decide +kernel
theorem d_R_strokes_27 : decode prog_13_method_70_code 27 = .ok (.aload_n 0, 1) := by decide +kernel
theorem d_R_strokes_28 : decode prog_13_method_70_code 28 = .ok (.iconst 3, 1) := by decide +kernel
theorem d_R_strokes_29 : decode prog_13_method_70_code 29 = .ok (.invokevirtual 55, 3) := by decide +kernel
theorem d_R_strokes_32 : decode prog_13_method_70_code 32 = .ok (.ireturn, 1) := by decide +kernel
theorem d_R_strokes_33 : decode prog_13_method_70_code 33 = .ok (.aload_n 0, 1) := by decide +kernel
theorem d_R_strokes_34 : decode prog_13_method_70_code 34 = .ok (.getfield 7, 3) := by decide +kernel
theorem d_R_strokes_37 : decode prog_13_method_70_code 37 = .ok (.iconst 0, 1) := by decide +kernel
theorem d_R_strokes_38 : decode prog_13_method_70_code 38 = .ok (.iaload, 1) := by decide +kernel
theorem d_R_strokes_39 : decode prog_13_method_70_code 39 = .ok (.istore_n 3, 1) := by decide +kernel
theorem d_R_strokes_40 : decode prog_13_method_70_code 40 = .ok (.aload_n 0, 1) := by decide +kernel
theorem d_R_strokes_41 : decode prog_13_method_70_code 41 = .ok (.getfield 7, 3) := by decide +kernel
theorem d_R_strokes_44 : decode prog_13_method_70_code 44 = .ok (.iconst 1, 1) := by decide +kernel
theorem d_R_strokes_45 : decode prog_13_method_70_code 45 = .ok (.iaload, 1) := by decide +kernel
theorem d_R_strokes_46 : decode prog_13_method_70_code 46 = .ok (.istore 4, 2) := by decide +kernel
theorem d_R_strokes_48 : decode prog_13_method_70_code 48 = .ok (.iconst (-1), 1) := by decide +kernel
theorem d_R_strokes_49 : decode prog_13_method_70_code 49 = .ok (.istore 5, 2) := by decide +kernel
theorem d_R_strokes_51 : decode prog_13_method_70_code 51 = .ok (.iconst 0, 1) := by decide +kernel
theorem d_R_strokes_52 : decode prog_13_method_70_code 52 = .ok (.istore 6, 2) := by decide +kernel
theorem d_R_strokes_54 : decode prog_13_method_70_code 54 = .ok (.iload 6, 2) := by decide +kernel
theorem d_R_strokes_56 : decode prog_13_method_70_code 56 = .ok (.bipush 20, 2) := by decide +kernel
theorem d_R_strokes_58 : decode prog_13_method_70_code 58 = .ok (.if_icmp .gt 38, 3) := by decide +kernel
theorem d_R_strokes_61 : decode prog_13_method_70_code 61 = .ok (.iload 5, 2) := by decide +kernel
theorem d_R_strokes_63 : decode prog_13_method_70_code 63 = .ok (.iconst (-1), 1) := by decide +kernel
theorem d_R_strokes_64 : decode prog_13_method_70_code 64 = .ok (.if_icmp .ne 32, 3) := by decide +kernel
theorem d_R_strokes_67 : decode prog_13_method_70_code 67 = .ok (.aload_n 0, 1) := by decide +kernel
theorem d_R_strokes_68 : decode prog_13_method_70_code 68 = .ok (.iload_n 1, 1) := by decide +kernel
theorem d_R_strokes_69 : decode prog_13_method_70_code 69 = .ok (.iload_n 2, 1) := by decide +kernel
theorem d_R_strokes_70 : decode prog_13_method_70_code 70 = .ok (.invokevirtual 209, 3) := by decide +kernel
theorem d_R_strokes_73 : decode prog_13_method_70_code 73 = .ok (.iconst (-1), 1) := by decide +kernel
theorem d_R_strokes_74 : decode prog_13_method_70_code 74 = .ok (.if_icmp .ne 7, 3) := by decide +kernel
theorem d_R_strokes_77 : decode prog_13_method_70_code 77 = .ok (.iconst (-1), 1) := by decide +kernel
theorem d_R_strokes_78 : decode prog_13_method_70_code 78 = .ok (.goto 5, 3) := by decide +kernel
theorem d_R_strokes_81 : decode prog_13_method_70_code 81 = .ok (.iload 6, 2) := by decide +kernel
theorem d_R_strokes_83 : decode prog_13_method_70_code 83 = .ok (.istore 5, 2) := by decide +kernel
theorem d_R_strokes_85 : decode prog_13_method_70_code 85 = .ok (.aload_n 0, 1) := by decide +kernel
theorem d_R_strokes_86 : decode prog_13_method_70_code 86 = .ok (.iconst 1, 1) := by decide +kernel
theorem d_R_strokes_87 : decode prog_13_method_70_code 87 = .ok (.invokevirtual 190, 3) := by decide +kernel
theorem d_R_strokes_90 : decode prog_13_method_70_code 90 = .ok (.iinc 6 1, 3) := by decide +kernel
theorem d_R_strokes_93 : decode prog_13_method_70_code 93 = .ok (.goto (-39), 3) := by decide +kernel
theorem d_R_strokes_96 : decode prog_13_method_70_code 96 = .ok (.aload_n 0, 1) := by decide +kernel
theorem d_R_strokes_97 : decode prog_13_method_70_code 97 = .ok (.getfield 7, 3) := by decide +kernel
theorem d_R_strokes_100 : decode prog_13_method_70_code 100 = .ok (.iconst 0, 1) := by decide +kernel
theorem d_R_strokes_101 : decode prog_13_method_70_code 101 = .ok (.iload_n 3, 1) := by decide +kernel
theorem d_R_strokes_102 : decode prog_13_method_70_code 102 = .ok (.iastore, 1) := by decide +kernel
theorem d_R_strokes_103 : decode prog_13_method_70_code 103 = .ok (.aload_n 0, 1) := by decide +kernel
theorem d_R_strokes_104 : decode prog_13_method_70_code 104 = .ok (.getfield 7, 3) := by decide +kernel
theorem d_R_strokes_107 : decode prog_13_method_70_code 107 = .ok (.iconst 1, 1) := by decide +kernel
theorem d_R_strokes_108 : decode prog_13_method_70_code 108 = .ok (.iload 4, 2) := by decide +kernel
theorem d_R_strokes_110 : decode prog_13_method_70_code 110 = .ok (.iastore, 1) := by decide +kernel
theorem d_R_strokes_111 : decode prog_13_method_70_code 111 = .ok (.iload 5, 2) := by decide +kernel
theorem d_R_strokes_113 : decode prog_13_method_70_code 113 = .ok (.iconst (-1), 1) := by decide +kernel
theorem d_R_strokes_114 : decode prog_13_method_70_code 114 = .ok (.if_icmp .ne 11, 3) := by decide +kernel
theorem d_R_strokes_117 : decode prog_13_method_70_code 117 = .ok (.aload_n 0, 1) := by decide +kernel
theorem d_R_strokes_118 : decode prog_13_method_70_code 118 = .ok (.iconst 2, 1) := by decide +kernel
theorem d_R_strokes_119 : decode prog_13_method_70_code 119 = .ok (.invokevirtual 55, 3) := by decide +kernel
theorem d_R_strokes_122 : decode prog_13_method_70_code 122 = .ok (.goto 5, 3) := by decide +kernel
theorem d_R_strokes_125 : decode prog_13_method_70_code 125 = .ok (.iload 5, 2) := by decide +kernel
theorem d_R_strokes_127 : decode prog_13_method_70_code 127 = .ok (.ireturn, 1) := by decide +kernel
theorem d_R_comesSo_0 : decode prog_13_method_71_code 0 = .ok (.aload_n 0, 1) := by decide +kernel
theorem d_R_comesSo_1 : decode prog_13_method_71_code 1 = .ok (.invokevirtual 149, 3) := by decide +kernel
theorem d_R_comesSo_4 : decode prog_13_method_71_code 4 = .ok (.iconst 1, 1) := by decide +kernel
theorem d_R_comesSo_5 : decode prog_13_method_71_code 5 = .ok (.istore 4, 2) := by decide +kernel
theorem d_R_comesSo_7 : decode prog_13_method_71_code 7 = .ok (.iconst 0, 1) := by decide +kernel
theorem d_R_comesSo_8 : decode prog_13_method_71_code 8 = .ok (.istore 5, 2) := by decide +kernel
theorem d_R_comesSo_10 : decode prog_13_method_71_code 10 = .ok (.iload 5, 2) := by decide +kernel
theorem d_R_comesSo_12 : decode prog_13_method_71_code 12 = .ok (.iload_n 3, 1) := by decide +kernel
theorem d_R_comesSo_13 : decode prog_13_method_71_code 13 = .ok (.if_icmp .ge 74, 3) := by decide +kernel
theorem d_R_comesSo_16 : decode prog_13_method_71_code 16 = .ok (.iload 4, 2) := by decide +kernel
theorem d_R_comesSo_18 : decode prog_13_method_71_code 18 = .ok (.ifCond .eq 69, 3) := by decide +kernel
theorem d_R_comesSo_21 : decode prog_13_method_71_code 21 = .ok (.aload_n 0, 1) := by decide +kernel
theorem d_R_comesSo_22 : decode prog_13_method_71_code 22 = .ok (.invokevirtual 152, 3) := by decide +kernel
theorem d_R_comesSo_25 : decode prog_13_method_71_code 25 = .ok (.ifCond .ne 7, 3) := by decide +kernel
theorem d_R_comesSo_28 : decode prog_13_method_71_code 28 = .ok (.iconst 1, 1) := by decide +kernel
theorem d_R_comesSo_29 : decode prog_13_method_71_code 29 = .ok (.goto 4, 3) := by decide +kernel
theorem d_R_comesSo_32 : decode prog_13_method_71_code 32 = .ok (.iconst 0, 1) := by decide +kernel
theorem d_R_comesSo_33 : decode prog_13_method_71_code 33 = .ok (.istore 4, 2) := by decide +kernel
theorem d_R_comesSo_35 : decode prog_13_method_71_code 35 = .ok (.aload_n 0, 1) := by decide +kernel
theorem d_R_comesSo_36 : decode prog_13_method_71_code 36 = .ok (.iload_n 2, 1) := by decide +kernel
theorem d_R_comesSo_37 : decode prog_13_method_71_code 37 = .ok (.iload 5, 2) := by decide +kernel
theorem d_R_comesSo_39 : decode prog_13_method_71_code 39 = .ok (.iload_n 3, 1) := by decide +kernel
theorem d_R_comesSo_40 : decode prog_13_method_71_code 40 = .ok (.invokestatic 197, 3) := by decide +kernel
theorem d_R_comesSo_43 : decode prog_13_method_71_code 43 = .ok (.invokevirtual 155, 3) := by decide +kernel
theorem d_R_comesSo_46 : decode prog_13_method_71_code 46 = .ok (.istore 6, 2) := by decide +kernel
theorem d_R_comesSo_48 : decode prog_13_method_71_code 48 = .ok (.iload 4, 2) := by decide +kernel
theorem d_R_comesSo_50 : decode prog_13_method_71_code 50 = .ok (.ifCond .eq 28, 3) := by decide +kernel
theorem d_R_comesSo_53 : decode prog_13_method_71_code 53 = .ok (.aload_n 0, 1) := by decide +kernel
theorem d_R_comesSo_54 : decode prog_13_method_71_code 54 = .ok (.getfield 7, 3) := by decide +kernel
theorem d_R_comesSo_57 : decode prog_13_method_71_code 57 = .ok (.iconst 2, 1) := by decide +kernel
theorem d_R_comesSo_58 : decode prog_13_method_71_code 58 = .ok (.iaload, 1) := by decide +kernel
theorem d_R_comesSo_59 : decode prog_13_method_71_code 59 = .ok (.aload_n 0, 1) := by decide +kernel
theorem d_R_comesSo_60 : decode prog_13_method_71_code 60 = .ok (.getfield 44, 3) := by decide +kernel
theorem d_R_comesSo_63 : decode prog_13_method_71_code 63 = .ok (.bipush 24, 2) := by decide +kernel
theorem d_R_comesSo_65 : decode prog_13_method_71_code 65 = .ok (.iload_n 1, 1) := by decide +kernel
theorem d_R_comesSo_66 : decode prog_13_method_71_code 66 = .ok (.imul, 1) := by decide +kernel
theorem d_R_comesSo_67 : decode prog_13_method_71_code 67 = .ok (.iload 5, 2) := by decide +kernel
theorem d_R_comesSo_69 : decode prog_13_method_71_code 69 = .ok (.iadd, 1) := by decide +kernel
theorem d_R_comesSo_70 : decode prog_13_method_71_code 70 = .ok (.iaload, 1) := by decide +kernel
theorem d_R_comesSo_71 : decode prog_13_method_71_code 71 = .ok (.if_icmp .ne 7, 3) := by decide +kernel
theorem d_R_comesSo_74 : decode prog_13_method_71_code 74 = .ok (.iconst 1, 1) := by decide +kernel
theorem d_R_comesSo_75 : decode prog_13_method_71_code 75 = .ok (.goto 4, 3) := by decide +kernel
theorem d_R_comesSo_78 : decode prog_13_method_71_code 78 = .ok (.iconst 0, 1) := by decide +kernel
theorem d_R_comesSo_79 : decode prog_13_method_71_code 79 = .ok (.istore 4, 2) := by decide +kernel
theorem d_R_comesSo_81 : decode prog_13_method_71_code 81 = .ok (.iinc 5 1, 3) := by decide +kernel
theorem d_R_comesSo_84 : decode prog_13_method_71_code 84 = .ok (.goto (-74), 3) := by decide +kernel
theorem d_R_comesSo_87 : decode prog_13_method_71_code 87 = .ok (.aload_n 0, 1) := by decide +kernel
theorem d_R_comesSo_88 : decode prog_13_method_71_code 88 = .ok (.invokevirtual 158, 3) := by decide +kernel
theorem d_R_comesSo_91 : decode prog_13_method_71_code 91 = .ok (.iload 4, 2) := by decide +kernel
theorem d_R_comesSo_93 : decode prog_13_method_71_code 93 = .ok (.ireturn, 1) := by decide +kernel
theorem d_R_fits_0 : decode prog_13_method_72_code 0 = .ok (.iload_n 2, 1) := by decide +kernel
theorem d_R_fits_1 : decode prog_13_method_72_code 1 = .ok (.iconst (-1), 1) := by decide +kernel
theorem d_R_fits_2 : decode prog_13_method_72_code 2 = .ok (.iconst 2, 1) := by decide +kernel
theorem d_R_fits_3 : decode prog_13_method_72_code 3 = .ok (.invokestatic 51, 3) := by decide +kernel
theorem d_R_fits_6 : decode prog_13_method_72_code 6 = .ok (.ifCond .eq 11, 3) := by decide +kernel
theorem d_R_fits_9 : decode prog_13_method_72_code 9 = .ok (.aload_n 0, 1) := by decide +kernel
theorem d_R_fits_10 : decode prog_13_method_72_code 10 = .ok (.iload_n 1, 1) := by decide +kernel
theorem d_R_fits_11 : decode prog_13_method_72_code 11 = .ok (.invokevirtual 218, 3) := by decide +kernel
theorem d_R_fits_14 : decode prog_13_method_72_code 14 = .ok (.goto 4, 3) := by decide +kernel
theorem d_R_fits_17 : decode prog_13_method_72_code 17 = .ok (.iconst 1, 1) := by decide +kernel
theorem d_R_fits_18 : decode prog_13_method_72_code 18 = .ok (.istore_n 3, 1) := by decide +kernel
theorem d_R_fits_19 : decode prog_13_method_72_code 19 = .ok (.iload_n 3, 1) := by decide +kernel
theorem d_R_fits_20 : decode prog_13_method_72_code 20 = .ok (.ifCond .eq 9, 3) := by decide +kernel
theorem d_R_fits_23 : decode prog_13_method_72_code 23 = .ok (.aload_n 0, 1) := by decide +kernel
theorem d_R_fits_24 : decode prog_13_method_72_code 24 = .ok (.iload_n 3, 1) := by decide +kernel
theorem d_R_fits_25 : decode prog_13_method_72_code 25 = .ok (.invokevirtual 55, 3) := by decide +kernel
theorem d_R_fits_28 : decode prog_13_method_72_code 28 = .ok (.ireturn, 1) := by decide +kernel
theorem d_R_fits_29 : decode prog_13_method_72_code 29 = .ok (.aload_n 0, 1) := by decide +kernel
theorem d_R_fits_30 : decode prog_13_method_72_code 30 = .ok (.getfield 41, 3) := by decide +kernel
theorem d_R_fits_33 : decode prog_13_method_72_code 33 = .ok (.iload_n 1, 1) := by decide +kernel
theorem d_R_fits_34 : decode prog_13_method_72_code 34 = .ok (.iaload, 1) := by decide +kernel
theorem d_R_fits_35 : decode prog_13_method_72_code 35 = .ok (.istore 4, 2) := by decide +kernel
theorem d_R_fits_37 : decode prog_13_method_72_code 37 = .ok (.iload 4, 2) := by decide +kernel
theorem d_R_fits_39 : decode prog_13_method_72_code 39 = .ok (.iconst 1, 1) := by decide +kernel
theorem d_R_fits_40 : decode prog_13_method_72_code 40 = .ok (.iconst 3, 1) := by decide +kernel
theorem d_R_fits_41 : decode prog_13_method_72_code 41 = .ok (.invokestatic 51, 3) := by decide +kernel
theorem d_R_fits_44 : decode prog_13_method_72_code 44 = .ok (.ifCond .ne 9, 3) := by decide +kernel
theorem d_R_fits_47 : decode prog_13_method_72_code 47 = .ok (.aload_n 0, 1) := by decide +kernel
theorem d_R_fits_48 : decode prog_13_method_72_code 48 = .ok (.iconst 2, 1) := by decide +kernel
theorem d_R_fits_49 : decode prog_13_method_72_code 49 = .ok (.invokevirtual 55, 3) := by decide +kernel
theorem d_R_fits_52 : decode prog_13_method_72_code 52 = .ok (.ireturn, 1) := by decide +kernel
theorem d_R_fits_53 : decode prog_13_method_72_code 53 = .ok (.iconst (-1), 1) := by decide +kernel
theorem d_R_fits_54 : decode prog_13_method_72_code 54 = .ok (.istore 5, 2) := by decide +kernel
theorem d_R_fits_56 : decode prog_13_method_72_code 56 = .ok (.iconst 0, 1) := by decide +kernel
theorem d_R_fits_57 : decode prog_13_method_72_code 57 = .ok (.istore 6, 2) := by decide +kernel
theorem d_R_fits_59 : decode prog_13_method_72_code 59 = .ok (.iload 4, 2) := by decide +kernel
theorem d_R_fits_61 : decode prog_13_method_72_code 61 = .ok (.invokestatic 194, 3) := by decide +kernel
theorem d_R_fits_64 : decode prog_13_method_72_code 64 = .ok (.istore 7, 2) := by decide +kernel
theorem d_R_fits_66 : decode prog_13_method_72_code 66 = .ok (.iconst 0, 1) := by decide +kernel
theorem d_R_fits_67 : decode prog_13_method_72_code 67 = .ok (.istore 8, 2) := by decide +kernel
theorem d_R_fits_69 : decode prog_13_method_72_code 69 = .ok (.iload 8, 2) := by decide +kernel
theorem d_R_fits_71 : decode prog_13_method_72_code 71 = .ok (.iload 7, 2) := by decide +kernel
theorem d_R_fits_73 : decode prog_13_method_72_code 73 = .ok (.if_icmp .ge 38, 3) := by decide +kernel
theorem d_R_fits_76 : decode prog_13_method_72_code 76 = .ok (.aload_n 0, 1) := by decide +kernel
theorem d_R_fits_77 : decode prog_13_method_72_code 77 = .ok (.iload_n 1, 1) := by decide +kernel
theorem d_R_fits_78 : decode prog_13_method_72_code 78 = .ok (.iload 8, 2) := by decide +kernel
theorem d_R_fits_80 : decode prog_13_method_72_code 80 = .ok (.iload 4, 2) := by decide +kernel
theorem d_R_fits_82 : decode prog_13_method_72_code 82 = .ok (.invokevirtual 221, 3) := by decide +kernel
theorem d_R_fits_85 : decode prog_13_method_72_code 85 = .ok (.ifCond .eq 20, 3) := by decide +kernel
theorem d_R_fits_88 : decode prog_13_method_72_code 88 = .ok (.iload 6, 2) := by decide +kernel
theorem d_R_fits_90 : decode prog_13_method_72_code 90 = .ok (.ifCond .ne 8, 3) := by decide +kernel
theorem d_R_fits_93 : decode prog_13_method_72_code 93 = .ok (.iload 8, 2) := by decide +kernel
theorem d_R_fits_95 : decode prog_13_method_72_code 95 = .ok (.goto 5, 3) := by decide +kernel
theorem d_R_fits_98 : decode prog_13_method_72_code 98 = .ok (.iload 5, 2) := by decide +kernel
theorem d_R_fits_100 : decode prog_13_method_72_code 100 = .ok (.istore 5, 2) := by decide +kernel
theorem d_R_fits_102 : decode prog_13_method_72_code 102 = .ok (.iinc 6 1, 3) := by decide +kernel
theorem d_R_fits_105 : decode prog_13_method_72_code 105 = .ok (.iinc 8 1, 3) := by decide +kernel
theorem d_R_fits_108 : decode prog_13_method_72_code 108 = .ok (.goto (-39), 3) := by decide +kernel
theorem d_R_fits_111 : decode prog_13_method_72_code 111 = .ok (.iload_n 2, 1) := by decide +kernel
theorem d_R_fits_112 : decode prog_13_method_72_code 112 = .ok (.iconst (-1), 1) := by decide +kernel
theorem d_R_fits_113 : decode prog_13_method_72_code 113 = .ok (.if_icmp .ne 6, 3) := by decide +kernel
theorem d_R_fits_116 : decode prog_13_method_72_code 116 = .ok (.iload 6, 2) := by decide +kernel
theorem d_R_fits_118 : decode prog_13_method_72_code 118 = .ok (.ireturn, 1) := by decide +kernel
theorem d_R_fits_119 : decode prog_13_method_72_code 119 = .ok (.iload 5, 2) := by decide +kernel
theorem d_R_fits_121 : decode prog_13_method_72_code 121 = .ok (.iconst (-1), 1) := by decide +kernel
theorem d_R_fits_122 : decode prog_13_method_72_code 122 = .ok (.if_icmp .eq 9, 3) := by decide +kernel
theorem d_R_fits_125 : decode prog_13_method_72_code 125 = .ok (.iload_n 2, 1) := by decide +kernel
theorem d_R_fits_126 : decode prog_13_method_72_code 126 = .ok (.iload 4, 2) := by decide +kernel
theorem d_R_fits_128 : decode prog_13_method_72_code 128 = .ok (.if_icmp .lt 11, 3) := by decide +kernel
theorem d_R_fits_131 : decode prog_13_method_72_code 131 = .ok (.aload_n 0, 1) := by decide +kernel
theorem d_R_fits_132 : decode prog_13_method_72_code 132 = .ok (.iconst 2, 1) := by decide +kernel
theorem d_R_fits_133 : decode prog_13_method_72_code 133 = .ok (.invokevirtual 55, 3) := by decide +kernel
theorem d_R_fits_136 : decode prog_13_method_72_code 136 = .ok (.goto 11, 3) := by decide +kernel
theorem d_R_fits_139 : decode prog_13_method_72_code 139 = .ok (.iload 5, 2) := by decide +kernel
theorem d_R_fits_141 : decode prog_13_method_72_code 141 = .ok (.iload_n 2, 1) := by decide +kernel
theorem d_R_fits_142 : decode prog_13_method_72_code 142 = .ok (.iload 4, 2) := by decide +kernel
theorem d_R_fits_144 : decode prog_13_method_72_code 144 = .ok (.invokestatic 197, 3) := by decide +kernel
theorem d_R_fits_147 : decode prog_13_method_72_code 147 = .ok (.ireturn, 1) := by decide +kernel
theorem d_R_divisor_0 : decode prog_13_method_73_code 0 = .ok (.iload_n 0, 1) := by decide +kernel
theorem d_R_divisor_1 : decode prog_13_method_73_code 1 = .ok (.istore_n 2, 1) := by decide +kernel
theorem d_R_divisor_2 : decode prog_13_method_73_code 2 = .ok (.iload_n 1, 1) := by decide +kernel
theorem d_R_divisor_3 : decode prog_13_method_73_code 3 = .ok (.istore_n 3, 1) := by decide +kernel
theorem d_R_divisor_4 : decode prog_13_method_73_code 4 = .ok (.iload_n 3, 1) := by decide +kernel
theorem d_R_divisor_5 : decode prog_13_method_73_code 5 = .ok (.ifCond .eq 16, 3) := by decide +kernel
theorem d_R_divisor_8 : decode prog_13_method_73_code 8 = .ok (.iload_n 2, 1) := by decide +kernel
theorem d_R_divisor_9 : decode prog_13_method_73_code 9 = .ok (.iload_n 3, 1) := by decide +kernel
theorem d_R_divisor_10 : decode prog_13_method_73_code 10 = .ok (.irem, 1) := by decide +kernel
theorem d_R_divisor_11 : decode prog_13_method_73_code 11 = .ok (.istore 4, 2) := by decide +kernel
theorem d_R_divisor_13 : decode prog_13_method_73_code 13 = .ok (.iload_n 3, 1) := by decide +kernel
theorem d_R_divisor_14 : decode prog_13_method_73_code 14 = .ok (.istore_n 2, 1) := by decide +kernel
theorem d_R_divisor_15 : decode prog_13_method_73_code 15 = .ok (.iload 4, 2) := by decide +kernel
theorem d_R_divisor_17 : decode prog_13_method_73_code 17 = .ok (.istore_n 3, 1) := by decide +kernel
theorem d_R_divisor_18 : decode prog_13_method_73_code 18 = .ok (.goto (-14), 3) := by decide +kernel
theorem d_R_divisor_21 : decode prog_13_method_73_code 21 = .ok (.iload_n 2, 1) := by decide +kernel
theorem d_R_divisor_22 : decode prog_13_method_73_code 22 = .ok (.ireturn, 1) := by decide +kernel
theorem d_R_odds_0 : decode prog_13_method_74_code 0 = .ok (.iload_n 1, 1) := by decide +kernel
theorem d_R_odds_1 : decode prog_13_method_74_code 1 = .ok (.iconst 1, 1) := by decide +kernel
theorem d_R_odds_2 : decode prog_13_method_74_code 2 = .ok (.iconst 3, 1) := by decide +kernel
theorem d_R_odds_3 : decode prog_13_method_74_code 3 = .ok (.invokestatic 51, 3) := by decide +kernel
theorem d_R_odds_6 : decode prog_13_method_74_code 6 = .ok (.ifCond .eq 12, 3) := by decide +kernel
theorem d_R_odds_9 : decode prog_13_method_74_code 9 = .ok (.iload_n 2, 1) := by decide +kernel
theorem d_R_odds_10 : decode prog_13_method_74_code 10 = .ok (.iconst 0, 1) := by decide +kernel
theorem d_R_odds_11 : decode prog_13_method_74_code 11 = .ok (.iconst 1, 1) := by decide +kernel
theorem d_R_odds_12 : decode prog_13_method_74_code 12 = .ok (.invokestatic 51, 3) := by decide +kernel
theorem d_R_odds_15 : decode prog_13_method_74_code 15 = .ok (.ifCond .ne 9, 3) := by decide +kernel
theorem d_R_odds_18 : decode prog_13_method_74_code 18 = .ok (.aload_n 0, 1) := by decide +kernel
theorem d_R_odds_19 : decode prog_13_method_74_code 19 = .ok (.iconst 1, 1) := by decide +kernel
theorem d_R_odds_20 : decode prog_13_method_74_code 20 = .ok (.invokevirtual 55, 3) := by decide +kernel
theorem d_R_odds_23 : decode prog_13_method_74_code 23 = .ok (.ireturn, 1) := by decide +kernel
theorem d_R_odds_24 : decode prog_13_method_74_code 24 = .ok (.aload_n 0, 1) := by decide +kernel
theorem d_R_odds_25 : decode prog_13_method_74_code 25 = .ok (.invokevirtual 152, 3) := by decide +kernel
theorem d_R_odds_28 : decode prog_13_method_74_code 28 = .ok (.ifCond .eq 9, 3) := by decide +kernel
theorem d_R_odds_31 : decode prog_13_method_74_code 31 = .ok (.aload_n 0, 1) := by decide +kernel
theorem d_R_odds_32 : decode prog_13_method_74_code 32 = .ok (.iconst 3, 1) := by decide +kernel
theorem d_R_odds_33 : decode prog_13_method_74_code 33 = .ok (.invokevirtual 55, 3) := by decide +kernel
theorem d_R_odds_36 : decode prog_13_method_74_code 36 = .ok (.ireturn, 1) := by decide +kernel
theorem d_R_odds_37 : decode prog_13_method_74_code 37 = .ok (.iload_n 1, 1) := by decide +kernel
theorem d_R_odds_38 : decode prog_13_method_74_code 38 = .ok (.invokestatic 194, 3) := by decide +kernel
theorem d_R_odds_41 : decode prog_13_method_74_code 41 = .ok (.istore_n 3, 1) := by decide +kernel
theorem d_R_odds_42 : decode prog_13_method_74_code 42 = .ok (.iconst 0, 1) := by decide +kernel
theorem d_R_odds_43 : decode prog_13_method_74_code 43 = .ok (.istore 4, 2) := by decide +kernel
theorem d_R_odds_45 : decode prog_13_method_74_code 45 = .ok (.iconst 0, 1) := by decide +kernel
theorem d_R_odds_46 : decode prog_13_method_74_code 46 = .ok (.istore 5, 2) := by decide +kernel
theorem d_R_odds_48 : decode prog_13_method_74_code 48 = .ok (.iload 5, 2) := by decide +kernel
theorem d_R_odds_50 : decode prog_13_method_74_code 50 = .ok (.iload_n 3, 1) := by decide +kernel
theorem d_R_odds_51 : decode prog_13_method_74_code 51 = .ok (.if_icmp .ge 33, 3) := by decide +kernel
theorem d_R_odds_54 : decode prog_13_method_74_code 54 = .ok (.aload_n 0, 1) := by decide +kernel
theorem d_R_odds_55 : decode prog_13_method_74_code 55 = .ok (.iload 5, 2) := by decide +kernel
theorem d_R_odds_57 : decode prog_13_method_74_code 57 = .ok (.iload_n 1, 1) := by decide +kernel
theorem d_R_odds_58 : decode prog_13_method_74_code 58 = .ok (.invokevirtual 206, 3) := by decide +kernel
theorem d_R_odds_61 : decode prog_13_method_74_code 61 = .ok (.iload 4, 2) := by decide +kernel
theorem d_R_odds_63 : decode prog_13_method_74_code 63 = .ok (.aload_n 0, 1) := by decide +kernel
theorem d_R_odds_64 : decode prog_13_method_74_code 64 = .ok (.getfield 200, 3) := by decide +kernel
theorem d_R_odds_67 : decode prog_13_method_74_code 67 = .ok (.ifCond .le 7, 3) := by decide +kernel
theorem d_R_odds_70 : decode prog_13_method_74_code 70 = .ok (.iconst 1, 1) := by decide +kernel
theorem d_R_odds_71 : decode prog_13_method_74_code 71 = .ok (.goto 4, 3) := by decide +kernel
theorem d_R_odds_74 : decode prog_13_method_74_code 74 = .ok (.iconst 0, 1) := by decide +kernel
theorem d_R_odds_75 : decode prog_13_method_74_code 75 = .ok (.iadd, 1) := by decide +kernel
theorem d_R_odds_76 : decode prog_13_method_74_code 76 = .ok (.istore 4, 2) := by decide +kernel
theorem d_R_odds_78 : decode prog_13_method_74_code 78 = .ok (.iinc 5 1, 3) := by decide +kernel
theorem d_R_odds_81 : decode prog_13_method_74_code 81 = .ok (.goto (-33), 3) := by decide +kernel
theorem d_R_odds_84 : decode prog_13_method_74_code 84 = .ok (.iload 4, 2) := by decide +kernel
theorem d_R_odds_86 : decode prog_13_method_74_code 86 = .ok (.iload_n 3, 1) := by decide +kernel
theorem d_R_odds_87 : decode prog_13_method_74_code 87 = .ok (.invokestatic 224, 3) := by decide +kernel
theorem d_R_odds_90 : decode prog_13_method_74_code 90 = .ok (.istore 5, 2) := by decide +kernel
theorem d_R_odds_92 : decode prog_13_method_74_code 92 = .ok (.iload_n 2, 1) := by decide +kernel
theorem d_R_odds_93 : decode prog_13_method_74_code 93 = .ok (.ifCond .ne 11, 3) := by decide +kernel
theorem d_R_odds_96 : decode prog_13_method_74_code 96 = .ok (.iload 4, 2) := by decide +kernel
theorem d_R_odds_98 : decode prog_13_method_74_code 98 = .ok (.iload 5, 2) := by decide +kernel
theorem d_R_odds_100 : decode prog_13_method_74_code 100 = .ok (.idiv, 1) := by decide +kernel
theorem d_R_odds_101 : decode prog_13_method_74_code 101 = .ok (.goto 7, 3) := by decide +kernel
theorem d_R_odds_104 : decode prog_13_method_74_code 104 = .ok (.iload_n 3, 1) := by decide +kernel
theorem d_R_odds_105 : decode prog_13_method_74_code 105 = .ok (.iload 5, 2) := by decide +kernel
theorem d_R_odds_107 : decode prog_13_method_74_code 107 = .ok (.idiv, 1) := by decide +kernel
theorem d_R_odds_108 : decode prog_13_method_74_code 108 = .ok (.ireturn, 1) := by decide +kernel
theorem d_R_begins_0 : decode prog_13_method_75_code 0 = .ok (.aload_n 0, 1) := by decide +kernel
theorem d_R_begins_1 : decode prog_13_method_75_code 1 = .ok (.getfield 227, 3) := by decide +kernel
theorem d_R_begins_4 : decode prog_13_method_75_code 4 = .ok (.bipush 30, 2) := by decide +kernel
theorem d_R_begins_6 : decode prog_13_method_75_code 6 = .ok (.if_icmp .ge 23, 3) := by decide +kernel
theorem d_R_begins_9 : decode prog_13_method_75_code 9 = .ok (.aload_n 0, 1) := by decide +kernel
theorem d_R_begins_10 : decode prog_13_method_75_code 10 = .ok (.getfield 35, 3) := by decide +kernel
theorem d_R_begins_13 : decode prog_13_method_75_code 13 = .ok (.aload_n 0, 1) := by decide +kernel
theorem d_R_begins_14 : decode prog_13_method_75_code 14 = .ok (.getfield 227, 3) := by decide +kernel
theorem d_R_begins_17 : decode prog_13_method_75_code 17 = .ok (.iload_n 1, 1) := by decide +kernel
theorem d_R_begins_18 : decode prog_13_method_75_code 18 = .ok (.iastore, 1) := by decide +kernel
theorem d_R_begins_19 : decode prog_13_method_75_code 19 = .ok (.aload_n 0, 1) := by decide +kernel
theorem d_R_begins_20 : decode prog_13_method_75_code 20 = .ok (.dup, 1) := by decide +kernel
theorem d_R_begins_21 : decode prog_13_method_75_code 21 = .ok (.getfield 227, 3) := by decide +kernel
theorem d_R_begins_24 : decode prog_13_method_75_code 24 = .ok (.iconst 1, 1) := by decide +kernel
theorem d_R_begins_25 : decode prog_13_method_75_code 25 = .ok (.iadd, 1) := by decide +kernel
theorem d_R_begins_26 : decode prog_13_method_75_code 26 = .ok (.putfield 227, 3) := by decide +kernel
theorem d_R_begins_29 : decode prog_13_method_75_code 29 = .ok (.return_, 1) := by decide +kernel
theorem d_R_above_0 : decode prog_13_method_76_code 0 = .ok (.iload_n 0, 1) := by decide +kernel
theorem d_R_above_1 : decode prog_13_method_76_code 1 = .ok (.iconst 4, 1) := by decide +kernel
theorem d_R_above_2 : decode prog_13_method_76_code 2 = .ok (.if_icmp .ne 7, 3) := by decide +kernel
theorem d_R_above_5 : decode prog_13_method_76_code 5 = .ok (.iconst 1, 1) := by decide +kernel
theorem d_R_above_6 : decode prog_13_method_76_code 6 = .ok (.goto 13, 3) := by decide +kernel
theorem d_R_above_9 : decode prog_13_method_76_code 9 = .ok (.iload_n 0, 1) := by decide +kernel
theorem d_R_above_10 : decode prog_13_method_76_code 10 = .ok (.iconst 5, 1) := by decide +kernel
theorem d_R_above_11 : decode prog_13_method_76_code 11 = .ok (.if_icmp .ne 7, 3) := by decide +kernel
theorem d_R_above_14 : decode prog_13_method_76_code 14 = .ok (.iconst 2, 1) := by decide +kernel
theorem d_R_above_15 : decode prog_13_method_76_code 15 = .ok (.goto 4, 3) := by decide +kernel
theorem d_R_above_18 : decode prog_13_method_76_code 18 = .ok (.iconst 0, 1) := by decide +kernel
theorem d_R_above_19 : decode prog_13_method_76_code 19 = .ok (.ireturn, 1) := by decide +kernel
theorem d_R_kindNow_0 : decode prog_13_method_77_code 0 = .ok (.aload_n 0, 1) := by decide +kernel
theorem d_R_kindNow_1 : decode prog_13_method_77_code 1 = .ok (.aload_n 0, 1) := by decide +kernel
theorem d_R_kindNow_2 : decode prog_13_method_77_code 2 = .ok (.getfield 230, 3) := by decide +kernel
theorem d_R_kindNow_5 : decode prog_13_method_77_code 5 = .ok (.iconst 0, 1) := by decide +kernel
theorem d_R_kindNow_6 : decode prog_13_method_77_code 6 = .ok (.invokevirtual 114, 3) := by decide +kernel
theorem d_R_kindNow_9 : decode prog_13_method_77_code 9 = .ok (.ireturn, 1) := by decide +kernel
theorem d_R_mNow_0 : decode prog_13_method_78_code 0 = .ok (.aload_n 0, 1) := by decide +kernel
theorem d_R_mNow_1 : decode prog_13_method_78_code 1 = .ok (.aload_n 0, 1) := by decide +kernel
theorem d_R_mNow_2 : decode prog_13_method_78_code 2 = .ok (.getfield 230, 3) := by decide +kernel
theorem d_R_mNow_5 : decode prog_13_method_78_code 5 = .ok (.iconst 1, 1) := by decide +kernel
theorem d_R_mNow_6 : decode prog_13_method_78_code 6 = .ok (.invokevirtual 114, 3) := by decide +kernel
theorem d_R_mNow_9 : decode prog_13_method_78_code 9 = .ok (.ireturn, 1) := by decide +kernel
theorem d_R_heavesAs_0 : decode prog_13_method_79_code 0 = .ok (.iload_n 1, 1) := by decide +kernel
theorem d_R_heavesAs_1 : decode prog_13_method_79_code 1 = .ok (.tableswitch 101 0 6 #[43, 56, 101, 101, 74, 101, 92], 43) := by decide +kernel
theorem d_R_heavesAs_44 : decode prog_13_method_79_code 44 = .ok (.aload_n 0, 1) := by decide +kernel
theorem d_R_heavesAs_45 : decode prog_13_method_79_code 45 = .ok (.bipush 10, 2) := by decide +kernel
theorem d_R_heavesAs_47 : decode prog_13_method_79_code 47 = .ok (.invokevirtual 233, 3) := by decide +kernel
theorem d_R_heavesAs_50 : decode prog_13_method_79_code 50 = .ok (.iload_n 2, 1) := by decide +kernel
theorem d_R_heavesAs_51 : decode prog_13_method_79_code 51 = .ok (.aload_n 0, 1) := by decide +kernel
theorem d_R_heavesAs_52 : decode prog_13_method_79_code 52 = .ok (.getfield 230, 3) := by decide +kernel
theorem d_R_heavesAs_55 : decode prog_13_method_79_code 55 = .ok (.iadd, 1) := by decide +kernel
theorem d_R_heavesAs_56 : decode prog_13_method_79_code 56 = .ok (.ireturn, 1) := by decide +kernel
theorem d_R_heavesAs_57 : decode prog_13_method_79_code 57 = .ok (.aload_n 0, 1) := by decide +kernel
theorem d_R_heavesAs_58 : decode prog_13_method_79_code 58 = .ok (.bipush 20, 2) := by decide +kernel
theorem d_R_heavesAs_60 : decode prog_13_method_79_code 60 = .ok (.invokevirtual 233, 3) := by decide +kernel
theorem d_R_heavesAs_63 : decode prog_13_method_79_code 63 = .ok (.aload_n 0, 1) := by decide +kernel
theorem d_R_heavesAs_64 : decode prog_13_method_79_code 64 = .ok (.iconst 1, 1) := by decide +kernel
theorem d_R_heavesAs_65 : decode prog_13_method_79_code 65 = .ok (.invokestatic 174, 3) := by decide +kernel
theorem d_R_heavesAs_68 : decode prog_13_method_79_code 68 = .ok (.iload_n 2, 1) := by decide +kernel
theorem d_R_heavesAs_69 : decode prog_13_method_79_code 69 = .ok (.invokevirtual 236, 3) := by decide +kernel
theorem d_R_heavesAs_72 : decode prog_13_method_79_code 72 = .ok (.iconst 4, 1) := by decide +kernel
theorem d_R_heavesAs_73 : decode prog_13_method_79_code 73 = .ok (.isub, 1) := by decide +kernel
theorem d_R_heavesAs_74 : decode prog_13_method_79_code 74 = .ok (.ireturn, 1) := by decide +kernel
theorem d_R_heavesAs_75 : decode prog_13_method_79_code 75 = .ok (.aload_n 0, 1) := by decide +kernel
theorem d_R_heavesAs_76 : decode prog_13_method_79_code 76 = .ok (.bipush 50, 2) := by decide +kernel
theorem d_R_heavesAs_78 : decode prog_13_method_79_code 78 = .ok (.invokevirtual 233, 3) := by decide +kernel
theorem d_R_heavesAs_81 : decode prog_13_method_79_code 81 = .ok (.aload_n 0, 1) := by decide +kernel
theorem d_R_heavesAs_82 : decode prog_13_method_79_code 82 = .ok (.iconst 4, 1) := by decide +kernel
theorem d_R_heavesAs_83 : decode prog_13_method_79_code 83 = .ok (.invokestatic 174, 3) := by decide +kernel
theorem d_R_heavesAs_86 : decode prog_13_method_79_code 86 = .ok (.iload_n 2, 1) := by decide +kernel
theorem d_R_heavesAs_87 : decode prog_13_method_79_code 87 = .ok (.invokevirtual 236, 3) := by decide +kernel
theorem d_R_heavesAs_90 : decode prog_13_method_79_code 90 = .ok (.iconst 3, 1) := by decide +kernel
theorem d_R_heavesAs_91 : decode prog_13_method_79_code 91 = .ok (.imul, 1) := by decide +kernel
theorem d_R_heavesAs_92 : decode prog_13_method_79_code 92 = .ok (.ireturn, 1) := by decide +kernel
theorem d_R_heavesAs_93 : decode prog_13_method_79_code 93 = .ok (.aload_n 0, 1) := by decide +kernel
theorem d_R_heavesAs_94 : decode prog_13_method_79_code 94 = .ok (.bipush 70, 2) := by decide +kernel
theorem d_R_heavesAs_96 : decode prog_13_method_79_code 96 = .ok (.invokevirtual 233, 3) := by decide +kernel
theorem d_R_heavesAs_99 : decode prog_13_method_79_code 99 = .ok (.bipush 9, 2) := by decide +kernel
theorem d_R_heavesAs_101 : decode prog_13_method_79_code 101 = .ok (.ireturn, 1) := by decide +kernel
theorem d_R_heavesAs_102 : decode prog_13_method_79_code 102 = .ok (.aload_n 0, 1) := by decide +kernel
theorem d_R_heavesAs_103 : decode prog_13_method_79_code 103 = .ok (.iload_n 1, 1) := by decide +kernel
theorem d_R_heavesAs_104 : decode prog_13_method_79_code 104 = .ok (.invokestatic 174, 3) := by decide +kernel
theorem d_R_heavesAs_107 : decode prog_13_method_79_code 107 = .ok (.iload_n 2, 1) := by decide +kernel
theorem d_R_heavesAs_108 : decode prog_13_method_79_code 108 = .ok (.invokevirtual 236, 3) := by decide +kernel
theorem d_R_heavesAs_111 : decode prog_13_method_79_code 111 = .ok (.ireturn, 1) := by decide +kernel
theorem d_R_slipsAs_0 : decode prog_13_method_80_code 0 = .ok (.iload_n 1, 1) := by decide +kernel
theorem d_R_slipsAs_1 : decode prog_13_method_80_code 1 = .ok (.tableswitch 119 0 6 #[43, 119, 61, 119, 119, 79, 97], 43) := by decide +kernel
theorem d_R_slipsAs_44 : decode prog_13_method_80_code 44 = .ok (.aload_n 0, 1) := by decide +kernel
theorem d_R_slipsAs_45 : decode prog_13_method_80_code 45 = .ok (.bipush 11, 2) := by decide +kernel
theorem d_R_slipsAs_47 : decode prog_13_method_80_code 47 = .ok (.invokevirtual 233, 3) := by decide +kernel
theorem d_R_slipsAs_50 : decode prog_13_method_80_code 50 = .ok (.aload_n 0, 1) := by decide +kernel
theorem d_R_slipsAs_51 : decode prog_13_method_80_code 51 = .ok (.aload_n 0, 1) := by decide +kernel
theorem d_R_slipsAs_52 : decode prog_13_method_80_code 52 = .ok (.invokevirtual 239, 3) := by decide +kernel
theorem d_R_slipsAs_55 : decode prog_13_method_80_code 55 = .ok (.iload_n 2, 1) := by decide +kernel
theorem d_R_slipsAs_56 : decode prog_13_method_80_code 56 = .ok (.invokevirtual 236, 3) := by decide +kernel
theorem d_R_slipsAs_59 : decode prog_13_method_80_code 59 = .ok (.iconst 2, 1) := by decide +kernel
theorem d_R_slipsAs_60 : decode prog_13_method_80_code 60 = .ok (.imul, 1) := by decide +kernel
theorem d_R_slipsAs_61 : decode prog_13_method_80_code 61 = .ok (.ireturn, 1) := by decide +kernel
theorem d_R_slipsAs_62 : decode prog_13_method_80_code 62 = .ok (.aload_n 0, 1) := by decide +kernel
theorem d_R_slipsAs_63 : decode prog_13_method_80_code 63 = .ok (.bipush 30, 2) := by decide +kernel
theorem d_R_slipsAs_65 : decode prog_13_method_80_code 65 = .ok (.invokevirtual 233, 3) := by decide +kernel
theorem d_R_slipsAs_68 : decode prog_13_method_80_code 68 = .ok (.iconst 0, 1) := by decide +kernel
theorem d_R_slipsAs_69 : decode prog_13_method_80_code 69 = .ok (.aload_n 0, 1) := by decide +kernel
theorem d_R_slipsAs_70 : decode prog_13_method_80_code 70 = .ok (.iconst 2, 1) := by decide +kernel
theorem d_R_slipsAs_71 : decode prog_13_method_80_code 71 = .ok (.invokestatic 174, 3) := by decide +kernel
theorem d_R_slipsAs_74 : decode prog_13_method_80_code 74 = .ok (.iload_n 2, 1) := by decide +kernel
theorem d_R_slipsAs_75 : decode prog_13_method_80_code 75 = .ok (.invokevirtual 242, 3) := by decide +kernel
theorem d_R_slipsAs_78 : decode prog_13_method_80_code 78 = .ok (.isub, 1) := by decide +kernel
theorem d_R_slipsAs_79 : decode prog_13_method_80_code 79 = .ok (.ireturn, 1) := by decide +kernel
theorem d_R_slipsAs_80 : decode prog_13_method_80_code 80 = .ok (.aload_n 0, 1) := by decide +kernel
theorem d_R_slipsAs_81 : decode prog_13_method_80_code 81 = .ok (.bipush 60, 2) := by decide +kernel
theorem d_R_slipsAs_83 : decode prog_13_method_80_code 83 = .ok (.invokevirtual 233, 3) := by decide +kernel
theorem d_R_slipsAs_86 : decode prog_13_method_80_code 86 = .ok (.aload_n 0, 1) := by decide +kernel
theorem d_R_slipsAs_87 : decode prog_13_method_80_code 87 = .ok (.iconst 5, 1) := by decide +kernel
theorem d_R_slipsAs_88 : decode prog_13_method_80_code 88 = .ok (.invokestatic 174, 3) := by decide +kernel
theorem d_R_slipsAs_91 : decode prog_13_method_80_code 91 = .ok (.iload_n 2, 1) := by decide +kernel
theorem d_R_slipsAs_92 : decode prog_13_method_80_code 92 = .ok (.iconst 1, 1) := by decide +kernel
theorem d_R_slipsAs_93 : decode prog_13_method_80_code 93 = .ok (.iadd, 1) := by decide +kernel
theorem d_R_slipsAs_94 : decode prog_13_method_80_code 94 = .ok (.invokevirtual 242, 3) := by decide +kernel
theorem d_R_slipsAs_97 : decode prog_13_method_80_code 97 = .ok (.ireturn, 1) := by decide +kernel
theorem d_R_slipsAs_98 : decode prog_13_method_80_code 98 = .ok (.aload_n 0, 1) := by decide +kernel
theorem d_R_slipsAs_99 : decode prog_13_method_80_code 99 = .ok (.bipush 71, 2) := by decide +kernel
theorem d_R_slipsAs_101 : decode prog_13_method_80_code 101 = .ok (.invokevirtual 233, 3) := by decide +kernel
theorem d_R_slipsAs_104 : decode prog_13_method_80_code 104 = .ok (.aload_n 0, 1) := by decide +kernel
theorem d_R_slipsAs_105 : decode prog_13_method_80_code 105 = .ok (.bipush 6, 2) := by decide +kernel
theorem d_R_slipsAs_107 : decode prog_13_method_80_code 107 = .ok (.invokestatic 174, 3) := by decide +kernel
theorem d_R_slipsAs_110 : decode prog_13_method_80_code 110 = .ok (.iload_n 2, 1) := by decide +kernel
theorem d_R_slipsAs_111 : decode prog_13_method_80_code 111 = .ok (.invokevirtual 242, 3) := by decide +kernel
theorem d_R_slipsAs_114 : decode prog_13_method_80_code 114 = .ok (.aload_n 0, 1) := by decide +kernel
theorem d_R_slipsAs_115 : decode prog_13_method_80_code 115 = .ok (.invokevirtual 245, 3) := by decide +kernel
theorem d_R_slipsAs_118 : decode prog_13_method_80_code 118 = .ok (.iadd, 1) := by decide +kernel
theorem d_R_slipsAs_119 : decode prog_13_method_80_code 119 = .ok (.ireturn, 1) := by decide +kernel
theorem d_R_slipsAs_120 : decode prog_13_method_80_code 120 = .ok (.aload_n 0, 1) := by decide +kernel
theorem d_R_slipsAs_121 : decode prog_13_method_80_code 121 = .ok (.iload_n 1, 1) := by decide +kernel
theorem d_R_slipsAs_122 : decode prog_13_method_80_code 122 = .ok (.invokestatic 174, 3) := by decide +kernel
theorem d_R_slipsAs_125 : decode prog_13_method_80_code 125 = .ok (.iload_n 2, 1) := by decide +kernel
theorem d_R_slipsAs_126 : decode prog_13_method_80_code 126 = .ok (.invokevirtual 242, 3) := by decide +kernel
theorem d_R_slipsAs_129 : decode prog_13_method_80_code 129 = .ok (.ireturn, 1) := by decide +kernel
theorem d_R_cursesAs_0 : decode prog_13_method_81_code 0 = .ok (.iload_n 1, 1) := by decide +kernel
theorem d_R_cursesAs_1 : decode prog_13_method_81_code 1 = .ok (.tableswitch 95 0 4 #[35, 95, 95, 56, 74], 35) := by decide +kernel
theorem d_R_cursesAs_36 : decode prog_13_method_81_code 36 = .ok (.aload_n 0, 1) := by decide +kernel
theorem d_R_cursesAs_37 : decode prog_13_method_81_code 37 = .ok (.bipush 12, 2) := by decide +kernel
theorem d_R_cursesAs_39 : decode prog_13_method_81_code 39 = .ok (.invokevirtual 233, 3) := by decide +kernel
theorem d_R_cursesAs_42 : decode prog_13_method_81_code 42 = .ok (.aload_n 0, 1) := by decide +kernel
theorem d_R_cursesAs_43 : decode prog_13_method_81_code 43 = .ok (.aload_n 0, 1) := by decide +kernel
theorem d_R_cursesAs_44 : decode prog_13_method_81_code 44 = .ok (.invokevirtual 239, 3) := by decide +kernel
theorem d_R_cursesAs_47 : decode prog_13_method_81_code 47 = .ok (.iload_n 2, 1) := by decide +kernel
theorem d_R_cursesAs_48 : decode prog_13_method_81_code 48 = .ok (.invokevirtual 242, 3) := by decide +kernel
theorem d_R_cursesAs_51 : decode prog_13_method_81_code 51 = .ok (.aload_n 0, 1) := by decide +kernel
theorem d_R_cursesAs_52 : decode prog_13_method_81_code 52 = .ok (.invokevirtual 245, 3) := by decide +kernel
theorem d_R_cursesAs_55 : decode prog_13_method_81_code 55 = .ok (.isub, 1) := by decide +kernel
theorem d_R_cursesAs_56 : decode prog_13_method_81_code 56 = .ok (.ireturn, 1) := by decide +kernel
theorem d_R_cursesAs_57 : decode prog_13_method_81_code 57 = .ok (.aload_n 0, 1) := by decide +kernel
theorem d_R_cursesAs_58 : decode prog_13_method_81_code 58 = .ok (.bipush 40, 2) := by decide +kernel
theorem d_R_cursesAs_60 : decode prog_13_method_81_code 60 = .ok (.invokevirtual 233, 3) := by decide +kernel
theorem d_R_cursesAs_63 : decode prog_13_method_81_code 63 = .ok (.aload_n 0, 1) := by decide +kernel
theorem d_R_cursesAs_64 : decode prog_13_method_81_code 64 = .ok (.iconst 3, 1) := by decide +kernel
theorem d_R_cursesAs_65 : decode prog_13_method_81_code 65 = .ok (.invokestatic 174, 3) := by decide +kernel
theorem d_R_cursesAs_68 : decode prog_13_method_81_code 68 = .ok (.iload_n 2, 1) := by decide +kernel
theorem d_R_cursesAs_69 : decode prog_13_method_81_code 69 = .ok (.iconst 2, 1) := by decide +kernel
theorem d_R_cursesAs_70 : decode prog_13_method_81_code 70 = .ok (.idiv, 1) := by decide +kernel
theorem d_R_cursesAs_71 : decode prog_13_method_81_code 71 = .ok (.invokevirtual 248, 3) := by decide +kernel
theorem d_R_cursesAs_74 : decode prog_13_method_81_code 74 = .ok (.ireturn, 1) := by decide +kernel
theorem d_R_cursesAs_75 : decode prog_13_method_81_code 75 = .ok (.aload_n 0, 1) := by decide +kernel
theorem d_R_cursesAs_76 : decode prog_13_method_81_code 76 = .ok (.bipush 51, 2) := by decide +kernel
theorem d_R_cursesAs_78 : decode prog_13_method_81_code 78 = .ok (.invokevirtual 233, 3) := by decide +kernel
theorem d_R_cursesAs_81 : decode prog_13_method_81_code 81 = .ok (.aload_n 0, 1) := by decide +kernel
theorem d_R_cursesAs_82 : decode prog_13_method_81_code 82 = .ok (.iconst 4, 1) := by decide +kernel
theorem d_R_cursesAs_83 : decode prog_13_method_81_code 83 = .ok (.invokestatic 174, 3) := by decide +kernel
theorem d_R_cursesAs_86 : decode prog_13_method_81_code 86 = .ok (.iload_n 2, 1) := by decide +kernel
theorem d_R_cursesAs_87 : decode prog_13_method_81_code 87 = .ok (.invokevirtual 248, 3) := by decide +kernel
theorem d_R_cursesAs_90 : decode prog_13_method_81_code 90 = .ok (.aload_n 0, 1) := by decide +kernel
theorem d_R_cursesAs_91 : decode prog_13_method_81_code 91 = .ok (.getfield 230, 3) := by decide +kernel
theorem d_R_cursesAs_94 : decode prog_13_method_81_code 94 = .ok (.ixor, 1) := by decide +kernel
theorem d_R_cursesAs_95 : decode prog_13_method_81_code 95 = .ok (.ireturn, 1) := by decide +kernel
theorem d_R_cursesAs_96 : decode prog_13_method_81_code 96 = .ok (.aload_n 0, 1) := by decide +kernel
theorem d_R_cursesAs_97 : decode prog_13_method_81_code 97 = .ok (.iload_n 1, 1) := by decide +kernel
theorem d_R_cursesAs_98 : decode prog_13_method_81_code 98 = .ok (.invokestatic 174, 3) := by decide +kernel
theorem d_R_cursesAs_101 : decode prog_13_method_81_code 101 = .ok (.iload_n 2, 1) := by decide +kernel
theorem d_R_cursesAs_102 : decode prog_13_method_81_code 102 = .ok (.invokevirtual 248, 3) := by decide +kernel
theorem d_R_cursesAs_105 : decode prog_13_method_81_code 105 = .ok (.ireturn, 1) := by decide +kernel
theorem d_R_partsAs_0 : decode prog_13_method_82_code 0 = .ok (.iload_n 1, 1) := by decide +kernel
theorem d_R_partsAs_1 : decode prog_13_method_82_code 1 = .ok (.lookupswitch 119 #[(0, 27), (1, 78)], 27) := by decide +kernel
theorem d_R_partsAs_28 : decode prog_13_method_82_code 28 = .ok (.aload_n 0, 1) := by decide +kernel
theorem d_R_partsAs_29 : decode prog_13_method_82_code 29 = .ok (.bipush 13, 2) := by decide +kernel
theorem d_R_partsAs_31 : decode prog_13_method_82_code 31 = .ok (.invokevirtual 233, 3) := by decide +kernel
theorem d_R_partsAs_34 : decode prog_13_method_82_code 34 = .ok (.aload_n 0, 1) := by decide +kernel
theorem d_R_partsAs_35 : decode prog_13_method_82_code 35 = .ok (.invokevirtual 245, 3) := by decide +kernel
theorem d_R_partsAs_38 : decode prog_13_method_82_code 38 = .ok (.aload_n 0, 1) := by decide +kernel
theorem d_R_partsAs_39 : decode prog_13_method_82_code 39 = .ok (.getfield 230, 3) := by decide +kernel
theorem d_R_partsAs_42 : decode prog_13_method_82_code 42 = .ok (.isub, 1) := by decide +kernel
theorem d_R_partsAs_43 : decode prog_13_method_82_code 43 = .ok (.istore_n 3, 1) := by decide +kernel
theorem d_R_partsAs_44 : decode prog_13_method_82_code 44 = .ok (.aload_n 0, 1) := by decide +kernel
theorem d_R_partsAs_45 : decode prog_13_method_82_code 45 = .ok (.iload_n 3, 1) := by decide +kernel
theorem d_R_partsAs_46 : decode prog_13_method_82_code 46 = .ok (.ifCond .ne 7, 3) := by decide +kernel
theorem d_R_partsAs_49 : decode prog_13_method_82_code 49 = .ok (.iconst 1, 1) := by decide +kernel
theorem d_R_partsAs_50 : decode prog_13_method_82_code 50 = .ok (.goto 4, 3) := by decide +kernel
theorem d_R_partsAs_53 : decode prog_13_method_82_code 53 = .ok (.iconst 0, 1) := by decide +kernel
theorem d_R_partsAs_54 : decode prog_13_method_82_code 54 = .ok (.putfield 251, 3) := by decide +kernel
theorem d_R_partsAs_57 : decode prog_13_method_82_code 57 = .ok (.iload_n 3, 1) := by decide +kernel
theorem d_R_partsAs_58 : decode prog_13_method_82_code 58 = .ok (.ifCond .ne 7, 3) := by decide +kernel
theorem d_R_partsAs_61 : decode prog_13_method_82_code 61 = .ok (.iconst 0, 1) := by decide +kernel
theorem d_R_partsAs_62 : decode prog_13_method_82_code 62 = .ok (.goto 16, 3) := by decide +kernel
theorem d_R_partsAs_65 : decode prog_13_method_82_code 65 = .ok (.iload_n 3, 1) := by decide +kernel
theorem d_R_partsAs_66 : decode prog_13_method_82_code 66 = .ok (.iconst (-1), 1) := by decide +kernel
theorem d_R_partsAs_67 : decode prog_13_method_82_code 67 = .ok (.if_icmp .ne 8, 3) := by decide +kernel
theorem d_R_partsAs_70 : decode prog_13_method_82_code 70 = .ok (.iload_n 2, 1) := by decide +kernel
theorem d_R_partsAs_71 : decode prog_13_method_82_code 71 = .ok (.ineg, 1) := by decide +kernel
theorem d_R_partsAs_72 : decode prog_13_method_82_code 72 = .ok (.goto 6, 3) := by decide +kernel
theorem d_R_partsAs_75 : decode prog_13_method_82_code 75 = .ok (.iload_n 2, 1) := by decide +kernel
theorem d_R_partsAs_76 : decode prog_13_method_82_code 76 = .ok (.iload_n 3, 1) := by decide +kernel
theorem d_R_partsAs_77 : decode prog_13_method_82_code 77 = .ok (.idiv, 1) := by decide +kernel
theorem d_R_partsAs_78 : decode prog_13_method_82_code 78 = .ok (.ireturn, 1) := by decide +kernel
theorem d_R_partsAs_79 : decode prog_13_method_82_code 79 = .ok (.aload_n 0, 1) := by decide +kernel
theorem d_R_partsAs_80 : decode prog_13_method_82_code 80 = .ok (.bipush 21, 2) := by decide +kernel
theorem d_R_partsAs_82 : decode prog_13_method_82_code 82 = .ok (.invokevirtual 233, 3) := by decide +kernel
theorem d_R_partsAs_85 : decode prog_13_method_82_code 85 = .ok (.aload_n 0, 1) := by decide +kernel
theorem d_R_partsAs_86 : decode prog_13_method_82_code 86 = .ok (.iconst 1, 1) := by decide +kernel
theorem d_R_partsAs_87 : decode prog_13_method_82_code 87 = .ok (.invokestatic 174, 3) := by decide +kernel
theorem d_R_partsAs_90 : decode prog_13_method_82_code 90 = .ok (.iload_n 2, 1) := by decide +kernel
theorem d_R_partsAs_91 : decode prog_13_method_82_code 91 = .ok (.invokevirtual 255, 3) := by decide +kernel
theorem d_R_partsAs_94 : decode prog_13_method_82_code 94 = .ok (.istore 4, 2) := by decide +kernel
theorem d_R_partsAs_96 : decode prog_13_method_82_code 96 = .ok (.aload_n 0, 1) := by decide +kernel
theorem d_R_partsAs_97 : decode prog_13_method_82_code 97 = .ok (.getfield 251, 3) := by decide +kernel
theorem d_R_partsAs_100 : decode prog_13_method_82_code 100 = .ok (.ifCond .eq 7, 3) := by decide +kernel
theorem d_R_partsAs_103 : decode prog_13_method_82_code 103 = .ok (.iconst 0, 1) := by decide +kernel
theorem d_R_partsAs_104 : decode prog_13_method_82_code 104 = .ok (.goto 15, 3) := by decide +kernel
theorem d_R_partsAs_107 : decode prog_13_method_82_code 107 = .ok (.iload 4, 2) := by decide +kernel
theorem d_R_partsAs_109 : decode prog_13_method_82_code 109 = .ok (.aload_n 0, 1) := by decide +kernel
theorem d_R_partsAs_110 : decode prog_13_method_82_code 110 = .ok (.aload_n 0, 1) := by decide +kernel
theorem d_R_partsAs_111 : decode prog_13_method_82_code 111 = .ok (.invokevirtual 239, 3) := by decide +kernel
theorem d_R_partsAs_114 : decode prog_13_method_82_code 114 = .ok (.iconst 1, 1) := by decide +kernel
theorem d_R_partsAs_115 : decode prog_13_method_82_code 115 = .ok (.invokevirtual 242, 3) := by decide +kernel
theorem d_R_partsAs_118 : decode prog_13_method_82_code 118 = .ok (.iadd, 1) := by decide +kernel
theorem d_R_partsAs_119 : decode prog_13_method_82_code 119 = .ok (.ireturn, 1) := by decide +kernel
theorem d_R_partsAs_120 : decode prog_13_method_82_code 120 = .ok (.aload_n 0, 1) := by decide +kernel
theorem d_R_partsAs_121 : decode prog_13_method_82_code 121 = .ok (.iload_n 1, 1) := by decide +kernel
theorem d_R_partsAs_122 : decode prog_13_method_82_code 122 = .ok (.invokestatic 174, 3) := by decide +kernel
theorem d_R_partsAs_125 : decode prog_13_method_82_code 125 = .ok (.iload_n 2, 1) := by decide +kernel
theorem d_R_partsAs_126 : decode prog_13_method_82_code 126 = .ok (.invokevirtual 255, 3) := by decide +kernel
theorem d_R_partsAs_129 : decode prog_13_method_82_code 129 = .ok (.ireturn, 1) := by decide +kernel
theorem d_R_voice_0 : decode prog_13_method_83_code 0 = .ok (.aload_n 0, 1) := by decide +kernel
theorem d_R_voice_1 : decode prog_13_method_83_code 1 = .ok (.iload_n 1, 1) := by decide +kernel
theorem d_R_voice_2 : decode prog_13_method_83_code 2 = .ok (.invokevirtual 168, 3) := by decide +kernel
theorem d_R_voice_5 : decode prog_13_method_83_code 5 = .ok (.ifCond .eq 12, 3) := by decide +kernel
theorem d_R_voice_8 : decode prog_13_method_83_code 8 = .ok (.iload_n 2, 1) := by decide +kernel
theorem d_R_voice_9 : decode prog_13_method_83_code 9 = .ok (.iconst 0, 1) := by decide +kernel
theorem d_R_voice_10 : decode prog_13_method_83_code 10 = .ok (.iconst 3, 1) := by decide +kernel
theorem d_R_voice_11 : decode prog_13_method_83_code 11 = .ok (.invokestatic 51, 3) := by decide +kernel
theorem d_R_voice_14 : decode prog_13_method_83_code 14 = .ok (.ifCond .ne 9, 3) := by decide +kernel
theorem d_R_voice_17 : decode prog_13_method_83_code 17 = .ok (.aload_n 0, 1) := by decide +kernel
theorem d_R_voice_18 : decode prog_13_method_83_code 18 = .ok (.iconst 1, 1) := by decide +kernel
theorem d_R_voice_19 : decode prog_13_method_83_code 19 = .ok (.invokevirtual 55, 3) := by decide +kernel
theorem d_R_voice_22 : decode prog_13_method_83_code 22 = .ok (.ireturn, 1) := by decide +kernel
theorem d_R_voice_23 : decode prog_13_method_83_code 23 = .ok (.aload_n 0, 1) := by decide +kernel
theorem d_R_voice_24 : decode prog_13_method_83_code 24 = .ok (.iconst 0, 1) := by decide +kernel
theorem d_R_voice_25 : decode prog_13_method_83_code 25 = .ok (.putfield 227, 3) := by decide +kernel
theorem d_R_voice_28 : decode prog_13_method_83_code 28 = .ok (.aload_n 0, 1) := by decide +kernel
theorem d_R_voice_29 : decode prog_13_method_83_code 29 = .ok (.iload_n 1, 1) := by decide +kernel
theorem d_R_voice_30 : decode prog_13_method_83_code 30 = .ok (.putfield 230, 3) := by decide +kernel
theorem d_R_voice_33 : decode prog_13_method_83_code 33 = .ok (.aload_n 0, 1) := by decide +kernel
theorem d_R_voice_34 : decode prog_13_method_83_code 34 = .ok (.iconst 0, 1) := by decide +kernel
theorem d_R_voice_35 : decode prog_13_method_83_code 35 = .ok (.putfield 251, 3) := by decide +kernel
theorem d_R_voice_38 : decode prog_13_method_83_code 38 = .ok (.aload_n 0, 1) := by decide +kernel
theorem d_R_voice_39 : decode prog_13_method_83_code 39 = .ok (.invokevirtual 239, 3) := by decide +kernel
theorem d_R_voice_42 : decode prog_13_method_83_code 42 = .ok (.istore 4, 2) := by decide +kernel
theorem d_R_voice_44 : decode prog_13_method_83_code 44 = .ok (.iload_n 2, 1) := by decide +kernel
theorem d_R_voice_45 : decode prog_13_method_83_code 45 = .ok (.ifCond .ne 13, 3) := by decide +kernel
theorem d_R_voice_48 : decode prog_13_method_83_code 48 = .ok (.aload_n 0, 1) := by decide +kernel
theorem d_R_voice_49 : decode prog_13_method_83_code 49 = .ok (.iload 4, 2) := by decide +kernel
theorem d_R_voice_51 : decode prog_13_method_83_code 51 = .ok (.iload_n 3, 1) := by decide +kernel
theorem d_R_voice_52 : decode prog_13_method_83_code 52 = .ok (.invokevirtual 236, 3) := by decide +kernel
theorem d_R_voice_55 : decode prog_13_method_83_code 55 = .ok (.goto 40, 3) := by decide +kernel
theorem d_R_voice_58 : decode prog_13_method_83_code 58 = .ok (.iload_n 2, 1) := by decide +kernel
theorem d_R_voice_59 : decode prog_13_method_83_code 59 = .ok (.iconst 1, 1) := by decide +kernel
theorem d_R_voice_60 : decode prog_13_method_83_code 60 = .ok (.if_icmp .ne 13, 3) := by decide +kernel
theorem d_R_voice_63 : decode prog_13_method_83_code 63 = .ok (.aload_n 0, 1) := by decide +kernel
theorem d_R_voice_64 : decode prog_13_method_83_code 64 = .ok (.iload 4, 2) := by decide +kernel
theorem d_R_voice_66 : decode prog_13_method_83_code 66 = .ok (.iload_n 3, 1) := by decide +kernel
theorem d_R_voice_67 : decode prog_13_method_83_code 67 = .ok (.invokevirtual 242, 3) := by decide +kernel
theorem d_R_voice_70 : decode prog_13_method_83_code 70 = .ok (.goto 25, 3) := by decide +kernel
theorem d_R_voice_73 : decode prog_13_method_83_code 73 = .ok (.iload_n 2, 1) := by decide +kernel
theorem d_R_voice_74 : decode prog_13_method_83_code 74 = .ok (.iconst 2, 1) := by decide +kernel
theorem d_R_voice_75 : decode prog_13_method_83_code 75 = .ok (.if_icmp .ne 13, 3) := by decide +kernel
theorem d_R_voice_78 : decode prog_13_method_83_code 78 = .ok (.aload_n 0, 1) := by decide +kernel
theorem d_R_voice_79 : decode prog_13_method_83_code 79 = .ok (.iload 4, 2) := by decide +kernel
theorem d_R_voice_81 : decode prog_13_method_83_code 81 = .ok (.iload_n 3, 1) := by decide +kernel
theorem d_R_voice_82 : decode prog_13_method_83_code 82 = .ok (.invokevirtual 248, 3) := by decide +kernel
theorem d_R_voice_85 : decode prog_13_method_83_code 85 = .ok (.goto 10, 3) := by decide +kernel
theorem d_R_voice_88 : decode prog_13_method_83_code 88 = .ok (.aload_n 0, 1) := by decide +kernel
theorem d_R_voice_89 : decode prog_13_method_83_code 89 = .ok (.iload 4, 2) := by decide +kernel
theorem d_R_voice_91 : decode prog_13_method_83_code 91 = .ok (.iload_n 3, 1) := by decide +kernel
theorem d_R_voice_92 : decode prog_13_method_83_code 92 = .ok (.invokevirtual 255, 3) := by decide +kernel
theorem d_R_voice_95 : decode prog_13_method_83_code 95 = .ok (.istore 5, 2) := by decide +kernel
theorem d_R_voice_97 : decode prog_13_method_83_code 97 = .ok (.aload_n 0, 1) := by decide +kernel
theorem d_R_voice_98 : decode prog_13_method_83_code 98 = .ok (.getfield 251, 3) := by decide +kernel
theorem d_R_voice_101 : decode prog_13_method_83_code 101 = .ok (.ifCond .eq 12, 3) := by decide +kernel
theorem d_R_voice_104 : decode prog_13_method_83_code 104 = .ok (.aload_n 0, 1) := by decide +kernel
theorem d_R_voice_105 : decode prog_13_method_83_code 105 = .ok (.bipush 6, 2) := by decide +kernel
theorem d_R_voice_107 : decode prog_13_method_83_code 107 = .ok (.invokevirtual 55, 3) := by decide +kernel
theorem d_R_voice_110 : decode prog_13_method_83_code 110 = .ok (.goto 5, 3) := by decide +kernel
theorem d_R_voice_113 : decode prog_13_method_83_code 113 = .ok (.iload 5, 2) := by decide +kernel
theorem d_R_voice_115 : decode prog_13_method_83_code 115 = .ok (.ireturn, 1) := by decide +kernel
theorem d_R_body_0 : decode prog_13_method_84_code 0 = .ok (.iload_n 1, 1) := by decide +kernel
theorem d_R_body_1 : decode prog_13_method_84_code 1 = .ok (.iconst 0, 1) := by decide +kernel
theorem d_R_body_2 : decode prog_13_method_84_code 2 = .ok (.aload_n 0, 1) := by decide +kernel
theorem d_R_body_3 : decode prog_13_method_84_code 3 = .ok (.getfield 227, 3) := by decide +kernel
theorem d_R_body_6 : decode prog_13_method_84_code 6 = .ok (.iconst 1, 1) := by decide +kernel
theorem d_R_body_7 : decode prog_13_method_84_code 7 = .ok (.isub, 1) := by decide +kernel
theorem d_R_body_8 : decode prog_13_method_84_code 8 = .ok (.invokestatic 51, 3) := by decide +kernel
theorem d_R_body_11 : decode prog_13_method_84_code 11 = .ok (.ifCond .eq 12, 3) := by decide +kernel
theorem d_R_body_14 : decode prog_13_method_84_code 14 = .ok (.aload_n 0, 1) := by decide +kernel
theorem d_R_body_15 : decode prog_13_method_84_code 15 = .ok (.getfield 35, 3) := by decide +kernel
theorem d_R_body_18 : decode prog_13_method_84_code 18 = .ok (.iload_n 1, 1) := by decide +kernel
theorem d_R_body_19 : decode prog_13_method_84_code 19 = .ok (.iaload, 1) := by decide +kernel
theorem d_R_body_20 : decode prog_13_method_84_code 20 = .ok (.goto 8, 3) := by decide +kernel
theorem d_R_body_23 : decode prog_13_method_84_code 23 = .ok (.aload_n 0, 1) := by decide +kernel
theorem d_R_body_24 : decode prog_13_method_84_code 24 = .ok (.iconst 2, 1) := by decide +kernel
theorem d_R_body_25 : decode prog_13_method_84_code 25 = .ok (.invokevirtual 55, 3) := by decide +kernel
theorem d_R_body_28 : decode prog_13_method_84_code 28 = .ok (.ireturn, 1) := by decide +kernel
theorem d_R_isSheet_0 : decode prog_13_method_85_code 0 = .ok (.iload_n 0, 1) := by decide +kernel
theorem d_R_isSheet_1 : decode prog_13_method_85_code 1 = .ok (.iconst 0, 1) := by decide +kernel
theorem d_R_isSheet_2 : decode prog_13_method_85_code 2 = .ok (.iconst 3, 1) := by decide +kernel
theorem d_R_isSheet_3 : decode prog_13_method_85_code 3 = .ok (.invokestatic 51, 3) := by decide +kernel
theorem d_R_isSheet_6 : decode prog_13_method_85_code 6 = .ok (.ireturn, 1) := by decide +kernel
theorem d_R_sheet_0 : decode prog_13_method_86_code 0 = .ok (.iload_n 1, 1) := by decide +kernel
theorem d_R_sheet_1 : decode prog_13_method_86_code 1 = .ok (.invokestatic 258, 3) := by decide +kernel
theorem d_R_sheet_4 : decode prog_13_method_86_code 4 = .ok (.ifCond .eq 25, 3) := by decide +kernel
theorem d_R_sheet_7 : decode prog_13_method_86_code 7 = .ok (.iload_n 2, 1) := by decide +kernel
theorem d_R_sheet_8 : decode prog_13_method_86_code 8 = .ok (.ifCond .eq 27, 3) := by decide +kernel
theorem d_R_sheet_11 : decode prog_13_method_86_code 11 = .ok (.iload_n 2, 1) := by decide +kernel
theorem d_R_sheet_12 : decode prog_13_method_86_code 12 = .ok (.bipush 8, 2) := by decide +kernel
theorem d_R_sheet_14 : decode prog_13_method_86_code 14 = .ok (.if_icmp .eq 21, 3) := by decide +kernel
theorem d_R_sheet_17 : decode prog_13_method_86_code 17 = .ok (.iload_n 2, 1) := by decide +kernel
theorem d_R_sheet_18 : decode prog_13_method_86_code 18 = .ok (.bipush 16, 2) := by decide +kernel
theorem d_R_sheet_20 : decode prog_13_method_86_code 20 = .ok (.if_icmp .eq 15, 3) := by decide +kernel
theorem d_R_sheet_23 : decode prog_13_method_86_code 23 = .ok (.iload_n 2, 1) := by decide +kernel
theorem d_R_sheet_24 : decode prog_13_method_86_code 24 = .ok (.bipush 32, 2) := by decide +kernel
theorem d_R_sheet_26 : decode prog_13_method_86_code 26 = .ok (.if_icmp .eq 9, 3) := by decide +kernel
theorem d_R_sheet_29 : decode prog_13_method_86_code 29 = .ok (.aload_n 0, 1) := by decide +kernel
theorem d_R_sheet_30 : decode prog_13_method_86_code 30 = .ok (.iconst 1, 1) := by decide +kernel
theorem d_R_sheet_31 : decode prog_13_method_86_code 31 = .ok (.invokevirtual 55, 3) := by decide +kernel
theorem d_R_sheet_34 : decode prog_13_method_86_code 34 = .ok (.ireturn, 1) := by decide +kernel
theorem d_R_sheet_35 : decode prog_13_method_86_code 35 = .ok (.iload_n 2, 1) := by decide +kernel
theorem d_R_sheet_36 : decode prog_13_method_86_code 36 = .ok (.ifCond .eq 13, 3) := by decide +kernel
theorem d_R_sheet_39 : decode prog_13_method_86_code 39 = .ok (.iload_n 3, 1) := by decide +kernel
theorem d_R_sheet_40 : decode prog_13_method_86_code 40 = .ok (.ifCond .ge 9, 3) := by decide +kernel
theorem d_R_sheet_43 : decode prog_13_method_86_code 43 = .ok (.aload_n 0, 1) := by decide +kernel
theorem d_R_sheet_44 : decode prog_13_method_86_code 44 = .ok (.iconst 3, 1) := by decide +kernel
theorem d_R_sheet_45 : decode prog_13_method_86_code 45 = .ok (.invokevirtual 55, 3) := by decide +kernel
theorem d_R_sheet_48 : decode prog_13_method_86_code 48 = .ok (.ireturn, 1) := by decide +kernel
theorem d_R_sheet_49 : decode prog_13_method_86_code 49 = .ok (.iload_n 2, 1) := by decide +kernel
theorem d_R_sheet_50 : decode prog_13_method_86_code 50 = .ok (.ifCond .eq 15, 3) := by decide +kernel
theorem d_R_sheet_53 : decode prog_13_method_86_code 53 = .ok (.iload_n 3, 1) := by decide +kernel
theorem d_R_sheet_54 : decode prog_13_method_86_code 54 = .ok (.bipush 24, 2) := by decide +kernel
theorem d_R_sheet_56 : decode prog_13_method_86_code 56 = .ok (.if_icmp .le 9, 3) := by decide +kernel
theorem d_R_sheet_59 : decode prog_13_method_86_code 59 = .ok (.aload_n 0, 1) := by decide +kernel
theorem d_R_sheet_60 : decode prog_13_method_86_code 60 = .ok (.iconst 1, 1) := by decide +kernel
theorem d_R_sheet_61 : decode prog_13_method_86_code 61 = .ok (.invokevirtual 55, 3) := by decide +kernel
theorem d_R_sheet_64 : decode prog_13_method_86_code 64 = .ok (.ireturn, 1) := by decide +kernel
theorem d_R_sheet_65 : decode prog_13_method_86_code 65 = .ok (.aload_n 0, 1) := by decide +kernel
theorem d_R_sheet_66 : decode prog_13_method_86_code 66 = .ok (.getfield 38, 3) := by decide +kernel
theorem d_R_sheet_69 : decode prog_13_method_86_code 69 = .ok (.iload_n 1, 1) := by decide +kernel
theorem d_R_sheet_70 : decode prog_13_method_86_code 70 = .ok (.iload_n 2, 1) := by decide +kernel
theorem d_R_sheet_71 : decode prog_13_method_86_code 71 = .ok (.iastore, 1) := by decide +kernel
theorem d_R_sheet_72 : decode prog_13_method_86_code 72 = .ok (.aload_n 0, 1) := by decide +kernel
theorem d_R_sheet_73 : decode prog_13_method_86_code 73 = .ok (.getfield 41, 3) := by decide +kernel
theorem d_R_sheet_76 : decode prog_13_method_86_code 76 = .ok (.iload_n 1, 1) := by decide +kernel
theorem d_R_sheet_77 : decode prog_13_method_86_code 77 = .ok (.iload_n 2, 1) := by decide +kernel
theorem d_R_sheet_78 : decode prog_13_method_86_code 78 = .ok (.ifCond .ne 7, 3) := by decide +kernel
theorem d_R_sheet_81 : decode prog_13_method_86_code 81 = .ok (.iconst 0, 1) := by decide +kernel
theorem d_R_sheet_82 : decode prog_13_method_86_code 82 = .ok (.goto 4, 3) := by decide +kernel
theorem d_R_sheet_85 : decode prog_13_method_86_code 85 = .ok (.iload_n 3, 1) := by decide +kernel
theorem d_R_sheet_86 : decode prog_13_method_86_code 86 = .ok (.iastore, 1) := by decide +kernel
theorem d_R_sheet_87 : decode prog_13_method_86_code 87 = .ok (.iconst 0, 1) := by decide +kernel
theorem d_R_sheet_88 : decode prog_13_method_86_code 88 = .ok (.istore 4, 2) := by decide +kernel
theorem d_R_sheet_90 : decode prog_13_method_86_code 90 = .ok (.iload 4, 2) := by decide +kernel
theorem d_R_sheet_92 : decode prog_13_method_86_code 92 = .ok (.bipush 24, 2) := by decide +kernel
theorem d_R_sheet_94 : decode prog_13_method_86_code 94 = .ok (.if_icmp .ge 22, 3) := by decide +kernel
theorem d_R_sheet_97 : decode prog_13_method_86_code 97 = .ok (.aload_n 0, 1) := by decide +kernel
theorem d_R_sheet_98 : decode prog_13_method_86_code 98 = .ok (.getfield 44, 3) := by decide +kernel
theorem d_R_sheet_101 : decode prog_13_method_86_code 101 = .ok (.bipush 24, 2) := by decide +kernel
theorem d_R_sheet_103 : decode prog_13_method_86_code 103 = .ok (.iload_n 1, 1) := by decide +kernel
theorem d_R_sheet_104 : decode prog_13_method_86_code 104 = .ok (.imul, 1) := by decide +kernel
theorem d_R_sheet_105 : decode prog_13_method_86_code 105 = .ok (.iload 4, 2) := by decide +kernel
theorem d_R_sheet_107 : decode prog_13_method_86_code 107 = .ok (.iadd, 1) := by decide +kernel
theorem d_R_sheet_108 : decode prog_13_method_86_code 108 = .ok (.iconst 0, 1) := by decide +kernel
theorem d_R_sheet_109 : decode prog_13_method_86_code 109 = .ok (.iastore, 1) := by decide +kernel
theorem d_R_sheet_110 : decode prog_13_method_86_code 110 = .ok (.iinc 4 1, 3) := by decide +kernel
theorem d_R_sheet_113 : decode prog_13_method_86_code 113 = .ok (.goto (-23), 3) := by decide +kernel
theorem d_R_sheet_116 : decode prog_13_method_86_code 116 = .ok (.iconst 1, 1) := by decide +kernel
theorem d_R_sheet_117 : decode prog_13_method_86_code 117 = .ok (.ireturn, 1) := by decide +kernel
theorem d_R_put_0 : decode prog_13_method_87_code 0 = .ok (.iload_n 1, 1) := by decide +kernel
theorem d_R_put_1 : decode prog_13_method_87_code 1 = .ok (.invokestatic 258, 3) := by decide +kernel
theorem d_R_put_4 : decode prog_13_method_87_code 4 = .ok (.ifCond .ne 9, 3) := by decide +kernel
theorem d_R_put_7 : decode prog_13_method_87_code 7 = .ok (.aload_n 0, 1) := by decide +kernel
theorem d_R_put_8 : decode prog_13_method_87_code 8 = .ok (.iconst 1, 1) := by decide +kernel
theorem d_R_put_9 : decode prog_13_method_87_code 9 = .ok (.invokevirtual 55, 3) := by decide +kernel
theorem d_R_put_12 : decode prog_13_method_87_code 12 = .ok (.ireturn, 1) := by decide +kernel
theorem d_R_put_13 : decode prog_13_method_87_code 13 = .ok (.aload_n 0, 1) := by decide +kernel
theorem d_R_put_14 : decode prog_13_method_87_code 14 = .ok (.getfield 38, 3) := by decide +kernel
theorem d_R_put_17 : decode prog_13_method_87_code 17 = .ok (.iload_n 1, 1) := by decide +kernel
theorem d_R_put_18 : decode prog_13_method_87_code 18 = .ok (.iaload, 1) := by decide +kernel
theorem d_R_put_19 : decode prog_13_method_87_code 19 = .ok (.ifCond .ne 9, 3) := by decide +kernel
theorem d_R_put_22 : decode prog_13_method_87_code 22 = .ok (.aload_n 0, 1) := by decide +kernel
theorem d_R_put_23 : decode prog_13_method_87_code 23 = .ok (.iconst 2, 1) := by decide +kernel
theorem d_R_put_24 : decode prog_13_method_87_code 24 = .ok (.invokevirtual 55, 3) := by decide +kernel
theorem d_R_put_27 : decode prog_13_method_87_code 27 = .ok (.ireturn, 1) := by decide +kernel
theorem d_R_put_28 : decode prog_13_method_87_code 28 = .ok (.iload_n 2, 1) := by decide +kernel
theorem d_R_put_29 : decode prog_13_method_87_code 29 = .ok (.iconst 0, 1) := by decide +kernel
theorem d_R_put_30 : decode prog_13_method_87_code 30 = .ok (.aload_n 0, 1) := by decide +kernel
theorem d_R_put_31 : decode prog_13_method_87_code 31 = .ok (.getfield 41, 3) := by decide +kernel
theorem d_R_put_34 : decode prog_13_method_87_code 34 = .ok (.iload_n 1, 1) := by decide +kernel
theorem d_R_put_35 : decode prog_13_method_87_code 35 = .ok (.iaload, 1) := by decide +kernel
theorem d_R_put_36 : decode prog_13_method_87_code 36 = .ok (.iconst 1, 1) := by decide +kernel
theorem d_R_put_37 : decode prog_13_method_87_code 37 = .ok (.isub, 1) := by decide +kernel
theorem d_R_put_38 : decode prog_13_method_87_code 38 = .ok (.invokestatic 51, 3) := by decide +kernel
theorem d_R_put_41 : decode prog_13_method_87_code 41 = .ok (.ifCond .ne 9, 3) := by decide +kernel
theorem d_R_put_44 : decode prog_13_method_87_code 44 = .ok (.aload_n 0, 1) := by decide +kernel
theorem d_R_put_45 : decode prog_13_method_87_code 45 = .ok (.iconst 1, 1) := by decide +kernel
theorem d_R_put_46 : decode prog_13_method_87_code 46 = .ok (.invokevirtual 55, 3) := by decide +kernel
theorem d_R_put_49 : decode prog_13_method_87_code 49 = .ok (.ireturn, 1) := by decide +kernel
theorem d_R_put_50 : decode prog_13_method_87_code 50 = .ok (.bipush 32, 2) := by decide +kernel
theorem d_R_put_52 : decode prog_13_method_87_code 52 = .ok (.aload_n 0, 1) := by decide +kernel
theorem d_R_put_53 : decode prog_13_method_87_code 53 = .ok (.getfield 38, 3) := by decide +kernel
theorem d_R_put_56 : decode prog_13_method_87_code 56 = .ok (.iload_n 1, 1) := by decide +kernel
theorem d_R_put_57 : decode prog_13_method_87_code 57 = .ok (.iaload, 1) := by decide +kernel
theorem d_R_put_58 : decode prog_13_method_87_code 58 = .ok (.isub, 1) := by decide +kernel
theorem d_R_put_59 : decode prog_13_method_87_code 59 = .ok (.istore 4, 2) := by decide +kernel
theorem d_R_put_61 : decode prog_13_method_87_code 61 = .ok (.aload_n 0, 1) := by decide +kernel
theorem d_R_put_62 : decode prog_13_method_87_code 62 = .ok (.getfield 44, 3) := by decide +kernel
theorem d_R_put_65 : decode prog_13_method_87_code 65 = .ok (.bipush 24, 2) := by decide +kernel
theorem d_R_put_67 : decode prog_13_method_87_code 67 = .ok (.iload_n 1, 1) := by decide +kernel
theorem d_R_put_68 : decode prog_13_method_87_code 68 = .ok (.imul, 1) := by decide +kernel
theorem d_R_put_69 : decode prog_13_method_87_code 69 = .ok (.iload_n 2, 1) := by decide +kernel
theorem d_R_put_70 : decode prog_13_method_87_code 70 = .ok (.iadd, 1) := by decide +kernel
theorem d_R_put_71 : decode prog_13_method_87_code 71 = .ok (.iload_n 3, 1) := by decide +kernel
theorem d_R_put_72 : decode prog_13_method_87_code 72 = .ok (.iload 4, 2) := by decide +kernel
theorem d_R_put_74 : decode prog_13_method_87_code 74 = .ok (.ishl, 1) := by decide +kernel
theorem d_R_put_75 : decode prog_13_method_87_code 75 = .ok (.iload 4, 2) := by decide +kernel
theorem d_R_put_77 : decode prog_13_method_87_code 77 = .ok (.ishr, 1) := by decide +kernel
theorem d_R_put_78 : decode prog_13_method_87_code 78 = .ok (.iastore, 1) := by decide +kernel
theorem d_R_put_79 : decode prog_13_method_87_code 79 = .ok (.iconst 1, 1) := by decide +kernel
theorem d_R_put_80 : decode prog_13_method_87_code 80 = .ok (.ireturn, 1) := by decide +kernel
