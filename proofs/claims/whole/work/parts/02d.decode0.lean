/-! decode rows (printed by wip/whole/gen4.py) -/
theorem d_Kinds_isKind_0 : decode prog_3_method_2_code 0 = .ok (.iload_n 0, 1) := by decide +kernel
theorem d_Kinds_isKind_1 : decode prog_3_method_2_code 1 = .ok (.ifCond .lt 15, 3) := by decide +kernel
theorem d_Kinds_isKind_4 : decode prog_3_method_2_code 4 = .ok (.iload_n 0, 1) := by decide +kernel
theorem d_Kinds_isKind_5 : decode prog_3_method_2_code 5 = .ok (.getstatic 7, 3) := by decide +kernel
theorem d_Kinds_isKind_8 : decode prog_3_method_2_code 8 = .ok (.arraylength, 1) := by decide +kernel
theorem d_Kinds_isKind_9 : decode prog_3_method_2_code 9 = .ok (.if_icmp .ge 7, 3) := by decide +kernel
theorem d_Kinds_isKind_12 : decode prog_3_method_2_code 12 = .ok (.iconst 1, 1) := by decide +kernel
theorem d_Kinds_isKind_13 : decode prog_3_method_2_code 13 = .ok (.goto 4, 3) := by decide +kernel
theorem d_Kinds_isKind_16 : decode prog_3_method_2_code 16 = .ok (.iconst 0, 1) := by decide +kernel
theorem d_Kinds_isKind_17 : decode prog_3_method_2_code 17 = .ok (.ireturn, 1) := by decide +kernel
theorem d_Kinds_above_0 : decode prog_3_method_3_code 0 = .ok (.iload_n 0, 1) := by decide +kernel
theorem d_Kinds_above_1 : decode prog_3_method_3_code 1 = .ok (.invokestatic 13, 3) := by decide +kernel
theorem d_Kinds_above_4 : decode prog_3_method_3_code 4 = .ok (.ifCond .eq 11, 3) := by decide +kernel
theorem d_Kinds_above_7 : decode prog_3_method_3_code 7 = .ok (.getstatic 7, 3) := by decide +kernel
theorem d_Kinds_above_10 : decode prog_3_method_3_code 10 = .ok (.iload_n 0, 1) := by decide +kernel
theorem d_Kinds_above_11 : decode prog_3_method_3_code 11 = .ok (.iaload, 1) := by decide +kernel
theorem d_Kinds_above_12 : decode prog_3_method_3_code 12 = .ok (.goto 4, 3) := by decide +kernel
theorem d_Kinds_above_15 : decode prog_3_method_3_code 15 = .ok (.iconst (-1), 1) := by decide +kernel
theorem d_Kinds_above_16 : decode prog_3_method_3_code 16 = .ok (.ireturn, 1) := by decide +kernel
theorem d_Kinds_isUnder_0 : decode prog_3_method_4_code 0 = .ok (.iload_n 0, 1) := by decide +kernel
theorem d_Kinds_isUnder_1 : decode prog_3_method_4_code 1 = .ok (.istore_n 2, 1) := by decide +kernel
theorem d_Kinds_isUnder_2 : decode prog_3_method_4_code 2 = .ok (.iconst 0, 1) := by decide +kernel
theorem d_Kinds_isUnder_3 : decode prog_3_method_4_code 3 = .ok (.istore_n 3, 1) := by decide +kernel
theorem d_Kinds_isUnder_4 : decode prog_3_method_4_code 4 = .ok (.iload_n 3, 1) := by decide +kernel
theorem d_Kinds_isUnder_5 : decode prog_3_method_4_code 5 = .ok (.getstatic 7, 3) := by decide +kernel
theorem d_Kinds_isUnder_8 : decode prog_3_method_4_code 8 = .ok (.arraylength, 1) := by decide +kernel
theorem d_Kinds_isUnder_9 : decode prog_3_method_4_code 9 = .ok (.if_icmp .ge 25, 3) := by decide +kernel
theorem d_Kinds_isUnder_12 : decode prog_3_method_4_code 12 = .ok (.iload_n 2, 1) := by decide +kernel
theorem d_Kinds_isUnder_13 : decode prog_3_method_4_code 13 = .ok (.ifCond .lt 21, 3) := by decide +kernel
theorem d_Kinds_isUnder_16 : decode prog_3_method_4_code 16 = .ok (.iload_n 2, 1) := by decide +kernel
theorem d_Kinds_isUnder_17 : decode prog_3_method_4_code 17 = .ok (.iload_n 1, 1) := by decide +kernel
theorem d_Kinds_isUnder_18 : decode prog_3_method_4_code 18 = .ok (.if_icmp .ne 5, 3) := by decide +kernel
theorem d_Kinds_isUnder_21 : decode prog_3_method_4_code 21 = .ok (.iconst 1, 1) := by decide +kernel
theorem d_Kinds_isUnder_22 : decode prog_3_method_4_code 22 = .ok (.ireturn, 1) := by decide +kernel
theorem d_Kinds_isUnder_23 : decode prog_3_method_4_code 23 = .ok (.iload_n 2, 1) := by decide +kernel
theorem d_Kinds_isUnder_24 : decode prog_3_method_4_code 24 = .ok (.invokestatic 17, 3) := by decide +kernel
theorem d_Kinds_isUnder_27 : decode prog_3_method_4_code 27 = .ok (.istore_n 2, 1) := by decide +kernel
theorem d_Kinds_isUnder_28 : decode prog_3_method_4_code 28 = .ok (.iinc 3 1, 3) := by decide +kernel
theorem d_Kinds_isUnder_31 : decode prog_3_method_4_code 31 = .ok (.goto (-27), 3) := by decide +kernel
theorem d_Kinds_isUnder_34 : decode prog_3_method_4_code 34 = .ok (.iconst 0, 1) := by decide +kernel
theorem d_Kinds_isUnder_35 : decode prog_3_method_4_code 35 = .ok (.ireturn, 1) := by decide +kernel
theorem d_Nums_init_0 : decode prog_5_method_1_code 0 = .ok (.aload_n 0, 1) := by decide +kernel
theorem d_Nums_init_1 : decode prog_5_method_1_code 1 = .ok (.invokespecial 1, 3) := by decide +kernel
theorem d_Nums_init_4 : decode prog_5_method_1_code 4 = .ok (.aload_n 0, 1) := by decide +kernel
theorem d_Nums_init_5 : decode prog_5_method_1_code 5 = .ok (.iconst 0, 1) := by decide +kernel
theorem d_Nums_init_6 : decode prog_5_method_1_code 6 = .ok (.putfield 7, 3) := by decide +kernel
theorem d_Nums_init_9 : decode prog_5_method_1_code 9 = .ok (.aload_n 0, 1) := by decide +kernel
theorem d_Nums_init_10 : decode prog_5_method_1_code 10 = .ok (.iload_n 1, 1) := by decide +kernel
theorem d_Nums_init_11 : decode prog_5_method_1_code 11 = .ok (.iconst 0, 1) := by decide +kernel
theorem d_Nums_init_12 : decode prog_5_method_1_code 12 = .ok (.invokestatic 13, 3) := by decide +kernel
theorem d_Nums_init_15 : decode prog_5_method_1_code 15 = .ok (.newarray .int, 2) := by decide +kernel
theorem d_Nums_init_17 : decode prog_5_method_1_code 17 = .ok (.putfield 19, 3) := by decide +kernel
theorem d_Nums_init_20 : decode prog_5_method_1_code 20 = .ok (.return_, 1) := by decide +kernel
theorem d_Nums_size_0 : decode prog_5_method_2_code 0 = .ok (.aload_n 0, 1) := by decide +kernel
theorem d_Nums_size_1 : decode prog_5_method_2_code 1 = .ok (.getfield 7, 3) := by decide +kernel
theorem d_Nums_size_4 : decode prog_5_method_2_code 4 = .ok (.ireturn, 1) := by decide +kernel
theorem d_Nums_has_0 : decode prog_5_method_3_code 0 = .ok (.iload_n 1, 1) := by decide +kernel
theorem d_Nums_has_1 : decode prog_5_method_3_code 1 = .ok (.ifCond .lt 15, 3) := by decide +kernel
theorem d_Nums_has_4 : decode prog_5_method_3_code 4 = .ok (.iload_n 1, 1) := by decide +kernel
theorem d_Nums_has_5 : decode prog_5_method_3_code 5 = .ok (.aload_n 0, 1) := by decide +kernel
theorem d_Nums_has_6 : decode prog_5_method_3_code 6 = .ok (.getfield 7, 3) := by decide +kernel
theorem d_Nums_has_9 : decode prog_5_method_3_code 9 = .ok (.if_icmp .ge 7, 3) := by decide +kernel
theorem d_Nums_has_12 : decode prog_5_method_3_code 12 = .ok (.iconst 1, 1) := by decide +kernel
theorem d_Nums_has_13 : decode prog_5_method_3_code 13 = .ok (.goto 4, 3) := by decide +kernel
theorem d_Nums_has_16 : decode prog_5_method_3_code 16 = .ok (.iconst 0, 1) := by decide +kernel
theorem d_Nums_has_17 : decode prog_5_method_3_code 17 = .ok (.ireturn, 1) := by decide +kernel
theorem d_Nums_hasRoom_0 : decode prog_5_method_4_code 0 = .ok (.iload_n 1, 1) := by decide +kernel
theorem d_Nums_hasRoom_1 : decode prog_5_method_4_code 1 = .ok (.aload_n 0, 1) := by decide +kernel
theorem d_Nums_hasRoom_2 : decode prog_5_method_4_code 2 = .ok (.getfield 19, 3) := by decide +kernel
theorem d_Nums_hasRoom_5 : decode prog_5_method_4_code 5 = .ok (.arraylength, 1) := by decide +kernel
theorem d_Nums_hasRoom_6 : decode prog_5_method_4_code 6 = .ok (.aload_n 0, 1) := by decide +kernel
theorem d_Nums_hasRoom_7 : decode prog_5_method_4_code 7 = .ok (.getfield 7, 3) := by decide +kernel
theorem d_Nums_hasRoom_10 : decode prog_5_method_4_code 10 = .ok (.isub, 1) := by decide +kernel
theorem d_Nums_hasRoom_11 : decode prog_5_method_4_code 11 = .ok (.if_icmp .gt 7, 3) := by decide +kernel
theorem d_Nums_hasRoom_14 : decode prog_5_method_4_code 14 = .ok (.iconst 1, 1) := by decide +kernel
theorem d_Nums_hasRoom_15 : decode prog_5_method_4_code 15 = .ok (.goto 4, 3) := by decide +kernel
theorem d_Nums_hasRoom_18 : decode prog_5_method_4_code 18 = .ok (.iconst 0, 1) := by decide +kernel
theorem d_Nums_hasRoom_19 : decode prog_5_method_4_code 19 = .ok (.ireturn, 1) := by decide +kernel
theorem d_Nums_at_0 : decode prog_5_method_5_code 0 = .ok (.aload_n 0, 1) := by decide +kernel
theorem d_Nums_at_1 : decode prog_5_method_5_code 1 = .ok (.iload_n 1, 1) := by decide +kernel
theorem d_Nums_at_2 : decode prog_5_method_5_code 2 = .ok (.invokevirtual 23, 3) := by decide +kernel
theorem d_Nums_at_5 : decode prog_5_method_5_code 5 = .ok (.ifCond .eq 21, 3) := by decide +kernel
theorem d_Nums_at_8 : decode prog_5_method_5_code 8 = .ok (.iload_n 1, 1) := by decide +kernel
theorem d_Nums_at_9 : decode prog_5_method_5_code 9 = .ok (.aload_n 0, 1) := by decide +kernel
theorem d_Nums_at_10 : decode prog_5_method_5_code 10 = .ok (.getfield 19, 3) := by decide +kernel
theorem d_Nums_at_13 : decode prog_5_method_5_code 13 = .ok (.arraylength, 1) := by decide +kernel
theorem d_Nums_at_14 : decode prog_5_method_5_code 14 = .ok (.if_icmp .ge 12, 3) := by decide +kernel
theorem d_Nums_at_17 : decode prog_5_method_5_code 17 = .ok (.aload_n 0, 1) := by decide +kernel
theorem d_Nums_at_18 : decode prog_5_method_5_code 18 = .ok (.getfield 19, 3) := by decide +kernel
theorem d_Nums_at_21 : decode prog_5_method_5_code 21 = .ok (.iload_n 1, 1) := by decide +kernel
theorem d_Nums_at_22 : decode prog_5_method_5_code 22 = .ok (.iaload, 1) := by decide +kernel
theorem d_Nums_at_23 : decode prog_5_method_5_code 23 = .ok (.goto 4, 3) := by decide +kernel
theorem d_Nums_at_26 : decode prog_5_method_5_code 26 = .ok (.iconst 0, 1) := by decide +kernel
theorem d_Nums_at_27 : decode prog_5_method_5_code 27 = .ok (.ireturn, 1) := by decide +kernel
theorem d_Nums_add_0 : decode prog_5_method_6_code 0 = .ok (.aload_n 0, 1) := by decide +kernel
theorem d_Nums_add_1 : decode prog_5_method_6_code 1 = .ok (.getfield 7, 3) := by decide +kernel
theorem d_Nums_add_4 : decode prog_5_method_6_code 4 = .ok (.ifCond .lt 35, 3) := by decide +kernel
theorem d_Nums_add_7 : decode prog_5_method_6_code 7 = .ok (.aload_n 0, 1) := by decide +kernel
theorem d_Nums_add_8 : decode prog_5_method_6_code 8 = .ok (.getfield 7, 3) := by decide +kernel
theorem d_Nums_add_11 : decode prog_5_method_6_code 11 = .ok (.aload_n 0, 1) := by decide +kernel
theorem d_Nums_add_12 : decode prog_5_method_6_code 12 = .ok (.getfield 19, 3) := by decide +kernel
theorem d_Nums_add_15 : decode prog_5_method_6_code 15 = .ok (.arraylength, 1) := by decide +kernel
theorem d_Nums_add_16 : decode prog_5_method_6_code 16 = .ok (.if_icmp .ge 23, 3) := by decide +kernel
theorem d_Nums_add_19 : decode prog_5_method_6_code 19 = .ok (.aload_n 0, 1) := by decide +kernel
theorem d_Nums_add_20 : decode prog_5_method_6_code 20 = .ok (.getfield 19, 3) := by decide +kernel
theorem d_Nums_add_23 : decode prog_5_method_6_code 23 = .ok (.aload_n 0, 1) := by decide +kernel
theorem d_Nums_add_24 : decode prog_5_method_6_code 24 = .ok (.getfield 7, 3) := by decide +kernel
theorem d_Nums_add_27 : decode prog_5_method_6_code 27 = .ok (.iload_n 1, 1) := by decide +kernel
theorem d_Nums_add_28 : decode prog_5_method_6_code 28 = .ok (.iastore, 1) := by decide +kernel
theorem d_Nums_add_29 : decode prog_5_method_6_code 29 = .ok (.aload_n 0, 1) := by decide +kernel
theorem d_Nums_add_30 : decode prog_5_method_6_code 30 = .ok (.dup, 1) := by decide +kernel
theorem d_Nums_add_31 : decode prog_5_method_6_code 31 = .ok (.getfield 7, 3) := by decide +kernel
theorem d_Nums_add_34 : decode prog_5_method_6_code 34 = .ok (.iconst 1, 1) := by decide +kernel
theorem d_Nums_add_35 : decode prog_5_method_6_code 35 = .ok (.iadd, 1) := by decide +kernel
theorem d_Nums_add_36 : decode prog_5_method_6_code 36 = .ok (.putfield 7, 3) := by decide +kernel
theorem d_Nums_add_39 : decode prog_5_method_6_code 39 = .ok (.return_, 1) := by decide +kernel
theorem d_Nums_empty_0 : decode prog_5_method_7_code 0 = .ok (.aload_n 0, 1) := by decide +kernel
theorem d_Nums_empty_1 : decode prog_5_method_7_code 1 = .ok (.iconst 0, 1) := by decide +kernel
theorem d_Nums_empty_2 : decode prog_5_method_7_code 2 = .ok (.putfield 7, 3) := by decide +kernel
theorem d_Nums_empty_5 : decode prog_5_method_7_code 5 = .ok (.return_, 1) := by decide +kernel
theorem d_Nums_copyFrom_0 : decode prog_5_method_8_code 0 = .ok (.aload_n 0, 1) := by decide +kernel
theorem d_Nums_copyFrom_1 : decode prog_5_method_8_code 1 = .ok (.iconst 0, 1) := by decide +kernel
theorem d_Nums_copyFrom_2 : decode prog_5_method_8_code 2 = .ok (.aload_n 1, 1) := by decide +kernel
theorem d_Nums_copyFrom_3 : decode prog_5_method_8_code 3 = .ok (.getfield 7, 3) := by decide +kernel
theorem d_Nums_copyFrom_6 : decode prog_5_method_8_code 6 = .ok (.aload_n 1, 1) := by decide +kernel
theorem d_Nums_copyFrom_7 : decode prog_5_method_8_code 7 = .ok (.getfield 19, 3) := by decide +kernel
theorem d_Nums_copyFrom_10 : decode prog_5_method_8_code 10 = .ok (.arraylength, 1) := by decide +kernel
theorem d_Nums_copyFrom_11 : decode prog_5_method_8_code 11 = .ok (.aload_n 0, 1) := by decide +kernel
theorem d_Nums_copyFrom_12 : decode prog_5_method_8_code 12 = .ok (.getfield 19, 3) := by decide +kernel
theorem d_Nums_copyFrom_15 : decode prog_5_method_8_code 15 = .ok (.arraylength, 1) := by decide +kernel
theorem d_Nums_copyFrom_16 : decode prog_5_method_8_code 16 = .ok (.invokestatic 27, 3) := by decide +kernel
theorem d_Nums_copyFrom_19 : decode prog_5_method_8_code 19 = .ok (.invokestatic 27, 3) := by decide +kernel
theorem d_Nums_copyFrom_22 : decode prog_5_method_8_code 22 = .ok (.invokestatic 13, 3) := by decide +kernel
theorem d_Nums_copyFrom_25 : decode prog_5_method_8_code 25 = .ok (.putfield 7, 3) := by decide +kernel
theorem d_Nums_copyFrom_28 : decode prog_5_method_8_code 28 = .ok (.aload_n 1, 1) := by decide +kernel
theorem d_Nums_copyFrom_29 : decode prog_5_method_8_code 29 = .ok (.getfield 19, 3) := by decide +kernel
theorem d_Nums_copyFrom_32 : decode prog_5_method_8_code 32 = .ok (.iconst 0, 1) := by decide +kernel
theorem d_Nums_copyFrom_33 : decode prog_5_method_8_code 33 = .ok (.aload_n 0, 1) := by decide +kernel
theorem d_Nums_copyFrom_34 : decode prog_5_method_8_code 34 = .ok (.getfield 19, 3) := by decide +kernel
theorem d_Nums_copyFrom_37 : decode prog_5_method_8_code 37 = .ok (.iconst 0, 1) := by decide +kernel
theorem d_Nums_copyFrom_38 : decode prog_5_method_8_code 38 = .ok (.aload_n 0, 1) := by decide +kernel
theorem d_Nums_copyFrom_39 : decode prog_5_method_8_code 39 = .ok (.getfield 7, 3) := by decide +kernel
theorem d_Nums_copyFrom_42 : decode prog_5_method_8_code 42 = .ok (.invokestatic 30, 3) := by decide +kernel
theorem d_Nums_copyFrom_45 : decode prog_5_method_8_code 45 = .ok (.return_, 1) := by decide +kernel
theorem d_Sheet_init_0 : decode prog_9_method_1_code 0 = .ok (.aload_n 0, 1) := by decide +kernel
theorem d_Sheet_init_1 : decode prog_9_method_1_code 1 = .ok (.invokespecial 1, 3) := by decide +kernel
theorem d_Sheet_init_4 : decode prog_9_method_1_code 4 = .ok (.aload_n 0, 1) := by decide +kernel
theorem d_Sheet_init_5 : decode prog_9_method_1_code 5 = .ok (.bipush 24, 2) := by decide +kernel
theorem d_Sheet_init_7 : decode prog_9_method_1_code 7 = .ok (.newarray .int, 2) := by decide +kernel
theorem d_Sheet_init_9 : decode prog_9_method_1_code 9 = .ok (.putfield 9, 3) := by decide +kernel
theorem d_Sheet_init_12 : decode prog_9_method_1_code 12 = .ok (.aload_n 0, 1) := by decide +kernel
theorem d_Sheet_init_13 : decode prog_9_method_1_code 13 = .ok (.iconst 0, 1) := by decide +kernel
theorem d_Sheet_init_14 : decode prog_9_method_1_code 14 = .ok (.putfield 13, 3) := by decide +kernel
theorem d_Sheet_init_17 : decode prog_9_method_1_code 17 = .ok (.aload_n 0, 1) := by decide +kernel
theorem d_Sheet_init_18 : decode prog_9_method_1_code 18 = .ok (.iconst 0, 1) := by decide +kernel
theorem d_Sheet_init_19 : decode prog_9_method_1_code 19 = .ok (.putfield 17, 3) := by decide +kernel
theorem d_Sheet_init_22 : decode prog_9_method_1_code 22 = .ok (.return_, 1) := by decide +kernel
theorem d_Sheet_canHaveBits_0 : decode prog_9_method_2_code 0 = .ok (.iload_n 0, 1) := by decide +kernel
theorem d_Sheet_canHaveBits_1 : decode prog_9_method_2_code 1 = .ok (.ifCond .eq 21, 3) := by decide +kernel
theorem d_Sheet_canHaveBits_4 : decode prog_9_method_2_code 4 = .ok (.iload_n 0, 1) := by decide +kernel
theorem d_Sheet_canHaveBits_5 : decode prog_9_method_2_code 5 = .ok (.bipush 8, 2) := by decide +kernel
theorem d_Sheet_canHaveBits_7 : decode prog_9_method_2_code 7 = .ok (.if_icmp .eq 15, 3) := by decide +kernel
theorem d_Sheet_canHaveBits_10 : decode prog_9_method_2_code 10 = .ok (.iload_n 0, 1) := by decide +kernel
theorem d_Sheet_canHaveBits_11 : decode prog_9_method_2_code 11 = .ok (.bipush 16, 2) := by decide +kernel
theorem d_Sheet_canHaveBits_13 : decode prog_9_method_2_code 13 = .ok (.if_icmp .eq 9, 3) := by decide +kernel
theorem d_Sheet_canHaveBits_16 : decode prog_9_method_2_code 16 = .ok (.iload_n 0, 1) := by decide +kernel
theorem d_Sheet_canHaveBits_17 : decode prog_9_method_2_code 17 = .ok (.bipush 32, 2) := by decide +kernel
theorem d_Sheet_canHaveBits_19 : decode prog_9_method_2_code 19 = .ok (.if_icmp .ne 7, 3) := by decide +kernel
theorem d_Sheet_canHaveBits_22 : decode prog_9_method_2_code 22 = .ok (.iconst 1, 1) := by decide +kernel
theorem d_Sheet_canHaveBits_23 : decode prog_9_method_2_code 23 = .ok (.goto 4, 3) := by decide +kernel
theorem d_Sheet_canHaveBits_26 : decode prog_9_method_2_code 26 = .ok (.iconst 0, 1) := by decide +kernel
theorem d_Sheet_canHaveBits_27 : decode prog_9_method_2_code 27 = .ok (.ireturn, 1) := by decide +kernel
theorem d_Sheet_isMissing_0 : decode prog_9_method_3_code 0 = .ok (.aload_n 0, 1) := by decide +kernel
theorem d_Sheet_isMissing_1 : decode prog_9_method_3_code 1 = .ok (.getfield 13, 3) := by decide +kernel
theorem d_Sheet_isMissing_4 : decode prog_9_method_3_code 4 = .ok (.ifCond .ne 7, 3) := by decide +kernel
theorem d_Sheet_isMissing_7 : decode prog_9_method_3_code 7 = .ok (.iconst 1, 1) := by decide +kernel
theorem d_Sheet_isMissing_8 : decode prog_9_method_3_code 8 = .ok (.goto 4, 3) := by decide +kernel
theorem d_Sheet_isMissing_11 : decode prog_9_method_3_code 11 = .ok (.iconst 0, 1) := by decide +kernel
theorem d_Sheet_isMissing_12 : decode prog_9_method_3_code 12 = .ok (.ireturn, 1) := by decide +kernel
theorem d_Sheet_bits_0 : decode prog_9_method_4_code 0 = .ok (.aload_n 0, 1) := by decide +kernel
theorem d_Sheet_bits_1 : decode prog_9_method_4_code 1 = .ok (.getfield 13, 3) := by decide +kernel
theorem d_Sheet_bits_4 : decode prog_9_method_4_code 4 = .ok (.ireturn, 1) := by decide +kernel
theorem d_Sheet_size_0 : decode prog_9_method_5_code 0 = .ok (.aload_n 0, 1) := by decide +kernel
theorem d_Sheet_size_1 : decode prog_9_method_5_code 1 = .ok (.getfield 17, 3) := by decide +kernel
theorem d_Sheet_size_4 : decode prog_9_method_5_code 4 = .ok (.ireturn, 1) := by decide +kernel
theorem d_Sheet_goesMissing_0 : decode prog_9_method_6_code 0 = .ok (.aload_n 0, 1) := by decide +kernel
theorem d_Sheet_goesMissing_1 : decode prog_9_method_6_code 1 = .ok (.iconst 0, 1) := by decide +kernel
theorem d_Sheet_goesMissing_2 : decode prog_9_method_6_code 2 = .ok (.putfield 13, 3) := by decide +kernel
theorem d_Sheet_goesMissing_5 : decode prog_9_method_6_code 5 = .ok (.aload_n 0, 1) := by decide +kernel
theorem d_Sheet_goesMissing_6 : decode prog_9_method_6_code 6 = .ok (.iconst 0, 1) := by decide +kernel
theorem d_Sheet_goesMissing_7 : decode prog_9_method_6_code 7 = .ok (.putfield 17, 3) := by decide +kernel
theorem d_Sheet_goesMissing_10 : decode prog_9_method_6_code 10 = .ok (.return_, 1) := by decide +kernel
theorem d_Sheet_begins_0 : decode prog_9_method_7_code 0 = .ok (.aload_n 0, 1) := by decide +kernel
theorem d_Sheet_begins_1 : decode prog_9_method_7_code 1 = .ok (.iload_n 1, 1) := by decide +kernel
theorem d_Sheet_begins_2 : decode prog_9_method_7_code 2 = .ok (.putfield 13, 3) := by decide +kernel
theorem d_Sheet_begins_5 : decode prog_9_method_7_code 5 = .ok (.aload_n 0, 1) := by decide +kernel
theorem d_Sheet_begins_6 : decode prog_9_method_7_code 6 = .ok (.iconst 0, 1) := by decide +kernel
theorem d_Sheet_begins_7 : decode prog_9_method_7_code 7 = .ok (.iload_n 2, 1) := by decide +kernel
theorem d_Sheet_begins_8 : decode prog_9_method_7_code 8 = .ok (.aload_n 0, 1) := by decide +kernel
theorem d_Sheet_begins_9 : decode prog_9_method_7_code 9 = .ok (.getfield 9, 3) := by decide +kernel
theorem d_Sheet_begins_12 : decode prog_9_method_7_code 12 = .ok (.arraylength, 1) := by decide +kernel
theorem d_Sheet_begins_13 : decode prog_9_method_7_code 13 = .ok (.invokestatic 20, 3) := by decide +kernel
theorem d_Sheet_begins_16 : decode prog_9_method_7_code 16 = .ok (.invokestatic 26, 3) := by decide +kernel
theorem d_Sheet_begins_19 : decode prog_9_method_7_code 19 = .ok (.putfield 17, 3) := by decide +kernel
theorem d_Sheet_begins_22 : decode prog_9_method_7_code 22 = .ok (.iconst 0, 1) := by decide +kernel
theorem d_Sheet_begins_23 : decode prog_9_method_7_code 23 = .ok (.istore_n 3, 1) := by decide +kernel
theorem d_Sheet_begins_24 : decode prog_9_method_7_code 24 = .ok (.iload_n 3, 1) := by decide +kernel
theorem d_Sheet_begins_25 : decode prog_9_method_7_code 25 = .ok (.aload_n 0, 1) := by decide +kernel
theorem d_Sheet_begins_26 : decode prog_9_method_7_code 26 = .ok (.getfield 17, 3) := by decide +kernel
theorem d_Sheet_begins_29 : decode prog_9_method_7_code 29 = .ok (.if_icmp .ge 16, 3) := by decide +kernel
theorem d_Sheet_begins_32 : decode prog_9_method_7_code 32 = .ok (.aload_n 0, 1) := by decide +kernel
theorem d_Sheet_begins_33 : decode prog_9_method_7_code 33 = .ok (.getfield 9, 3) := by decide +kernel
theorem d_Sheet_begins_36 : decode prog_9_method_7_code 36 = .ok (.iload_n 3, 1) := by decide +kernel
theorem d_Sheet_begins_37 : decode prog_9_method_7_code 37 = .ok (.iconst 0, 1) := by decide +kernel
theorem d_Sheet_begins_38 : decode prog_9_method_7_code 38 = .ok (.iastore, 1) := by decide +kernel
theorem d_Sheet_begins_39 : decode prog_9_method_7_code 39 = .ok (.iinc 3 1, 3) := by decide +kernel
theorem d_Sheet_begins_42 : decode prog_9_method_7_code 42 = .ok (.goto (-18), 3) := by decide +kernel
theorem d_Sheet_begins_45 : decode prog_9_method_7_code 45 = .ok (.return_, 1) := by decide +kernel
theorem d_Sheet_holds_0 : decode prog_9_method_8_code 0 = .ok (.iload_n 1, 1) := by decide +kernel
theorem d_Sheet_holds_1 : decode prog_9_method_8_code 1 = .ok (.ifCond .lt 29, 3) := by decide +kernel
theorem d_Sheet_holds_4 : decode prog_9_method_8_code 4 = .ok (.iload_n 2, 1) := by decide +kernel
theorem d_Sheet_holds_5 : decode prog_9_method_8_code 5 = .ok (.ifCond .lt 25, 3) := by decide +kernel
theorem d_Sheet_holds_8 : decode prog_9_method_8_code 8 = .ok (.iload_n 1, 1) := by decide +kernel
theorem d_Sheet_holds_9 : decode prog_9_method_8_code 9 = .ok (.aload_n 0, 1) := by decide +kernel
theorem d_Sheet_holds_10 : decode prog_9_method_8_code 10 = .ok (.getfield 17, 3) := by decide +kernel
theorem d_Sheet_holds_13 : decode prog_9_method_8_code 13 = .ok (.if_icmp .gt 17, 3) := by decide +kernel
theorem d_Sheet_holds_16 : decode prog_9_method_8_code 16 = .ok (.iload_n 2, 1) := by decide +kernel
theorem d_Sheet_holds_17 : decode prog_9_method_8_code 17 = .ok (.aload_n 0, 1) := by decide +kernel
theorem d_Sheet_holds_18 : decode prog_9_method_8_code 18 = .ok (.getfield 17, 3) := by decide +kernel
theorem d_Sheet_holds_21 : decode prog_9_method_8_code 21 = .ok (.iload_n 1, 1) := by decide +kernel
theorem d_Sheet_holds_22 : decode prog_9_method_8_code 22 = .ok (.isub, 1) := by decide +kernel
theorem d_Sheet_holds_23 : decode prog_9_method_8_code 23 = .ok (.if_icmp .gt 7, 3) := by decide +kernel
theorem d_Sheet_holds_26 : decode prog_9_method_8_code 26 = .ok (.iconst 1, 1) := by decide +kernel
theorem d_Sheet_holds_27 : decode prog_9_method_8_code 27 = .ok (.goto 4, 3) := by decide +kernel
theorem d_Sheet_holds_30 : decode prog_9_method_8_code 30 = .ok (.iconst 0, 1) := by decide +kernel
theorem d_Sheet_holds_31 : decode prog_9_method_8_code 31 = .ok (.ireturn, 1) := by decide +kernel
theorem d_Sheet_at_0 : decode prog_9_method_9_code 0 = .ok (.iload_n 1, 1) := by decide +kernel
theorem d_Sheet_at_1 : decode prog_9_method_9_code 1 = .ok (.ifCond .lt 29, 3) := by decide +kernel
theorem d_Sheet_at_4 : decode prog_9_method_9_code 4 = .ok (.iload_n 1, 1) := by decide +kernel
theorem d_Sheet_at_5 : decode prog_9_method_9_code 5 = .ok (.aload_n 0, 1) := by decide +kernel
theorem d_Sheet_at_6 : decode prog_9_method_9_code 6 = .ok (.getfield 17, 3) := by decide +kernel
theorem d_Sheet_at_9 : decode prog_9_method_9_code 9 = .ok (.if_icmp .ge 21, 3) := by decide +kernel
theorem d_Sheet_at_12 : decode prog_9_method_9_code 12 = .ok (.iload_n 1, 1) := by decide +kernel
theorem d_Sheet_at_13 : decode prog_9_method_9_code 13 = .ok (.aload_n 0, 1) := by decide +kernel
theorem d_Sheet_at_14 : decode prog_9_method_9_code 14 = .ok (.getfield 9, 3) := by decide +kernel
theorem d_Sheet_at_17 : decode prog_9_method_9_code 17 = .ok (.arraylength, 1) := by decide +kernel
theorem d_Sheet_at_18 : decode prog_9_method_9_code 18 = .ok (.if_icmp .ge 12, 3) := by decide +kernel
theorem d_Sheet_at_21 : decode prog_9_method_9_code 21 = .ok (.aload_n 0, 1) := by decide +kernel
theorem d_Sheet_at_22 : decode prog_9_method_9_code 22 = .ok (.getfield 9, 3) := by decide +kernel
theorem d_Sheet_at_25 : decode prog_9_method_9_code 25 = .ok (.iload_n 1, 1) := by decide +kernel
theorem d_Sheet_at_26 : decode prog_9_method_9_code 26 = .ok (.iaload, 1) := by decide +kernel
theorem d_Sheet_at_27 : decode prog_9_method_9_code 27 = .ok (.goto 4, 3) := by decide +kernel
theorem d_Sheet_at_30 : decode prog_9_method_9_code 30 = .ok (.iconst 0, 1) := by decide +kernel
theorem d_Sheet_at_31 : decode prog_9_method_9_code 31 = .ok (.ireturn, 1) := by decide +kernel
theorem d_Sheet_write_0 : decode prog_9_method_10_code 0 = .ok (.iload_n 1, 1) := by decide +kernel
theorem d_Sheet_write_1 : decode prog_9_method_10_code 1 = .ok (.ifCond .lt 60, 3) := by decide +kernel
theorem d_Sheet_write_4 : decode prog_9_method_10_code 4 = .ok (.iload_n 1, 1) := by decide +kernel
theorem d_Sheet_write_5 : decode prog_9_method_10_code 5 = .ok (.aload_n 0, 1) := by decide +kernel
theorem d_Sheet_write_6 : decode prog_9_method_10_code 6 = .ok (.getfield 17, 3) := by decide +kernel
theorem d_Sheet_write_9 : decode prog_9_method_10_code 9 = .ok (.if_icmp .ge 52, 3) := by decide +kernel
theorem d_Sheet_write_12 : decode prog_9_method_10_code 12 = .ok (.iload_n 1, 1) := by decide +kernel
theorem d_Sheet_write_13 : decode prog_9_method_10_code 13 = .ok (.aload_n 0, 1) := by decide +kernel
theorem d_Sheet_write_14 : decode prog_9_method_10_code 14 = .ok (.getfield 9, 3) := by decide +kernel
theorem d_Sheet_write_17 : decode prog_9_method_10_code 17 = .ok (.arraylength, 1) := by decide +kernel
theorem d_Sheet_write_18 : decode prog_9_method_10_code 18 = .ok (.if_icmp .ge 43, 3) := by decide +kernel
theorem d_Sheet_write_21 : decode prog_9_method_10_code 21 = .ok (.aload_n 0, 1) := by decide +kernel
theorem d_Sheet_write_22 : decode prog_9_method_10_code 22 = .ok (.getfield 9, 3) := by decide +kernel
theorem d_Sheet_write_25 : decode prog_9_method_10_code 25 = .ok (.iload_n 1, 1) := by decide +kernel
theorem d_Sheet_write_26 : decode prog_9_method_10_code 26 = .ok (.aload_n 0, 1) := by decide +kernel
theorem d_Sheet_write_27 : decode prog_9_method_10_code 27 = .ok (.getfield 13, 3) := by decide +kernel
theorem d_Sheet_write_30 : decode prog_9_method_10_code 30 = .ok (.bipush 8, 2) := by decide +kernel
theorem d_Sheet_write_32 : decode prog_9_method_10_code 32 = .ok (.if_icmp .ne 11, 3) := by decide +kernel
theorem d_Sheet_write_35 : decode prog_9_method_10_code 35 = .ok (.iload_n 2, 1) := by decide +kernel
theorem d_Sheet_write_36 : decode prog_9_method_10_code 36 = .ok (.sipush 255, 3) := by decide +kernel
theorem d_Sheet_write_39 : decode prog_9_method_10_code 39 = .ok (.iand, 1) := by decide +kernel
theorem d_Sheet_write_40 : decode prog_9_method_10_code 40 = .ok (.goto 20, 3) := by decide +kernel
theorem d_Sheet_write_43 : decode prog_9_method_10_code 43 = .ok (.aload_n 0, 1) := by decide +kernel
theorem d_Sheet_write_44 : decode prog_9_method_10_code 44 = .ok (.getfield 13, 3) := by decide +kernel
theorem d_Sheet_write_47 : decode prog_9_method_10_code 47 = .ok (.bipush 16, 2) := by decide +kernel
theorem d_Sheet_write_49 : decode prog_9_method_10_code 49 = .ok (.if_icmp .ne 10, 3) := by decide +kernel
theorem d_Sheet_write_52 : decode prog_9_method_10_code 52 = .ok (.iload_n 2, 1) := by decide +kernel
theorem d_Sheet_write_53 : decode prog_9_method_10_code 53 = .ok (.ldc 29, 2) := by decide +kernel
theorem d_Sheet_write_55 : decode prog_9_method_10_code 55 = .ok (.iand, 1) := by decide +kernel
theorem d_Sheet_write_56 : decode prog_9_method_10_code 56 = .ok (.goto 4, 3) := by decide +kernel
theorem d_Sheet_write_59 : decode prog_9_method_10_code 59 = .ok (.iload_n 2, 1) := by decide +kernel
theorem d_Sheet_write_60 : decode prog_9_method_10_code 60 = .ok (.iastore, 1) := by decide +kernel
theorem d_Sheet_write_61 : decode prog_9_method_10_code 61 = .ok (.return_, 1) := by decide +kernel
theorem d_Sheet_takes_0 : decode prog_9_method_11_code 0 = .ok (.aload_n 0, 1) := by decide +kernel
theorem d_Sheet_takes_1 : decode prog_9_method_11_code 1 = .ok (.iload_n 1, 1) := by decide +kernel
theorem d_Sheet_takes_2 : decode prog_9_method_11_code 2 = .ok (.iload 4, 2) := by decide +kernel
theorem d_Sheet_takes_4 : decode prog_9_method_11_code 4 = .ok (.invokevirtual 30, 3) := by decide +kernel
theorem d_Sheet_takes_7 : decode prog_9_method_11_code 7 = .ok (.ifCond .eq 28, 3) := by decide +kernel
theorem d_Sheet_takes_10 : decode prog_9_method_11_code 10 = .ok (.aload_n 2, 1) := by decide +kernel
theorem d_Sheet_takes_11 : decode prog_9_method_11_code 11 = .ok (.iload_n 3, 1) := by decide +kernel
theorem d_Sheet_takes_12 : decode prog_9_method_11_code 12 = .ok (.iload 4, 2) := by decide +kernel
theorem d_Sheet_takes_14 : decode prog_9_method_11_code 14 = .ok (.invokevirtual 30, 3) := by decide +kernel
theorem d_Sheet_takes_17 : decode prog_9_method_11_code 17 = .ok (.ifCond .eq 18, 3) := by decide +kernel
theorem d_Sheet_takes_20 : decode prog_9_method_11_code 20 = .ok (.aload_n 2, 1) := by decide +kernel
theorem d_Sheet_takes_21 : decode prog_9_method_11_code 21 = .ok (.getfield 9, 3) := by decide +kernel
theorem d_Sheet_takes_24 : decode prog_9_method_11_code 24 = .ok (.iload_n 3, 1) := by decide +kernel
theorem d_Sheet_takes_25 : decode prog_9_method_11_code 25 = .ok (.aload_n 0, 1) := by decide +kernel
theorem d_Sheet_takes_26 : decode prog_9_method_11_code 26 = .ok (.getfield 9, 3) := by decide +kernel
theorem d_Sheet_takes_29 : decode prog_9_method_11_code 29 = .ok (.iload_n 1, 1) := by decide +kernel
theorem d_Sheet_takes_30 : decode prog_9_method_11_code 30 = .ok (.iload 4, 2) := by decide +kernel
theorem d_Sheet_takes_32 : decode prog_9_method_11_code 32 = .ok (.invokestatic 34, 3) := by decide +kernel
theorem d_Sheet_takes_35 : decode prog_9_method_11_code 35 = .ok (.return_, 1) := by decide +kernel
theorem d_Law_init_0 : decode prog_4_method_1_code 0 = .ok (.aload_n 0, 1) := by decide +kernel
theorem d_Law_init_1 : decode prog_4_method_1_code 1 = .ok (.invokespecial 1, 3) := by decide +kernel
theorem d_Law_init_4 : decode prog_4_method_1_code 4 = .ok (.aload_n 0, 1) := by decide +kernel
theorem d_Law_init_5 : decode prog_4_method_1_code 5 = .ok (.bipush 60, 2) := by decide +kernel
theorem d_Law_init_7 : decode prog_4_method_1_code 7 = .ok (.newarray .int, 2) := by decide +kernel
theorem d_Law_init_9 : decode prog_4_method_1_code 9 = .ok (.putfield 9, 3) := by decide +kernel
theorem d_Law_init_12 : decode prog_4_method_1_code 12 = .ok (.aload_n 0, 1) := by decide +kernel
theorem d_Law_init_13 : decode prog_4_method_1_code 13 = .ok (.bipush 60, 2) := by decide +kernel
theorem d_Law_init_15 : decode prog_4_method_1_code 15 = .ok (.newarray .int, 2) := by decide +kernel
theorem d_Law_init_17 : decode prog_4_method_1_code 17 = .ok (.putfield 13, 3) := by decide +kernel
theorem d_Law_init_20 : decode prog_4_method_1_code 20 = .ok (.aload_n 0, 1) := by decide +kernel
theorem d_Law_init_21 : decode prog_4_method_1_code 21 = .ok (.iconst 0, 1) := by decide +kernel
theorem d_Law_init_22 : decode prog_4_method_1_code 22 = .ok (.putfield 16, 3) := by decide +kernel
theorem d_Law_init_25 : decode prog_4_method_1_code 25 = .ok (.aload_n 0, 1) := by decide +kernel
theorem d_Law_init_26 : decode prog_4_method_1_code 26 = .ok (.iconst 0, 1) := by decide +kernel
theorem d_Law_init_27 : decode prog_4_method_1_code 27 = .ok (.putfield 20, 3) := by decide +kernel
theorem d_Law_init_30 : decode prog_4_method_1_code 30 = .ok (.aload_n 0, 1) := by decide +kernel
theorem d_Law_init_31 : decode prog_4_method_1_code 31 = .ok (.iload_n 1, 1) := by decide +kernel
theorem d_Law_init_32 : decode prog_4_method_1_code 32 = .ok (.putfield 24, 3) := by decide +kernel
theorem d_Law_init_35 : decode prog_4_method_1_code 35 = .ok (.return_, 1) := by decide +kernel
theorem d_Law_takes_0 : decode prog_4_method_2_code 0 = .ok (.aload_n 0, 1) := by decide +kernel
theorem d_Law_takes_1 : decode prog_4_method_2_code 1 = .ok (.aload_n 1, 1) := by decide +kernel
theorem d_Law_takes_2 : decode prog_4_method_2_code 2 = .ok (.invokevirtual 27, 3) := by decide +kernel
theorem d_Law_takes_5 : decode prog_4_method_2_code 5 = .ok (.aload_n 0, 1) := by decide +kernel
theorem d_Law_takes_6 : decode prog_4_method_2_code 6 = .ok (.getfield 9, 3) := by decide +kernel
theorem d_Law_takes_9 : decode prog_4_method_2_code 9 = .ok (.arraylength, 1) := by decide +kernel
theorem d_Law_takes_10 : decode prog_4_method_2_code 10 = .ok (.invokestatic 33, 3) := by decide +kernel
theorem d_Law_takes_13 : decode prog_4_method_2_code 13 = .ok (.putfield 16, 3) := by decide +kernel
theorem d_Law_takes_16 : decode prog_4_method_2_code 16 = .ok (.iconst 0, 1) := by decide +kernel
theorem d_Law_takes_17 : decode prog_4_method_2_code 17 = .ok (.istore_n 2, 1) := by decide +kernel
theorem d_Law_takes_18 : decode prog_4_method_2_code 18 = .ok (.iload_n 2, 1) := by decide +kernel
theorem d_Law_takes_19 : decode prog_4_method_2_code 19 = .ok (.aload_n 0, 1) := by decide +kernel
theorem d_Law_takes_20 : decode prog_4_method_2_code 20 = .ok (.getfield 16, 3) := by decide +kernel
theorem d_Law_takes_23 : decode prog_4_method_2_code 23 = .ok (.if_icmp .ge 20, 3) := by decide +kernel
theorem d_Law_takes_26 : decode prog_4_method_2_code 26 = .ok (.aload_n 0, 1) := by decide +kernel
theorem d_Law_takes_27 : decode prog_4_method_2_code 27 = .ok (.getfield 9, 3) := by decide +kernel
theorem d_Law_takes_30 : decode prog_4_method_2_code 30 = .ok (.iload_n 2, 1) := by decide +kernel
theorem d_Law_takes_31 : decode prog_4_method_2_code 31 = .ok (.aload_n 1, 1) := by decide +kernel
theorem d_Law_takes_32 : decode prog_4_method_2_code 32 = .ok (.iload_n 2, 1) := by decide +kernel
theorem d_Law_takes_33 : decode prog_4_method_2_code 33 = .ok (.invokevirtual 39, 3) := by decide +kernel
theorem d_Law_takes_36 : decode prog_4_method_2_code 36 = .ok (.iastore, 1) := by decide +kernel
theorem d_Law_takes_37 : decode prog_4_method_2_code 37 = .ok (.iinc 2 1, 3) := by decide +kernel
theorem d_Law_takes_40 : decode prog_4_method_2_code 40 = .ok (.goto (-22), 3) := by decide +kernel
theorem d_Law_takes_43 : decode prog_4_method_2_code 43 = .ok (.aload_n 0, 1) := by decide +kernel
theorem d_Law_takes_44 : decode prog_4_method_2_code 44 = .ok (.iconst 1, 1) := by decide +kernel
theorem d_Law_takes_45 : decode prog_4_method_2_code 45 = .ok (.putfield 20, 3) := by decide +kernel
theorem d_Law_takes_48 : decode prog_4_method_2_code 48 = .ok (.return_, 1) := by decide +kernel
theorem d_Law_forgets_0 : decode prog_4_method_3_code 0 = .ok (.aload_n 0, 1) := by decide +kernel
theorem d_Law_forgets_1 : decode prog_4_method_3_code 1 = .ok (.getfield 20, 3) := by decide +kernel
theorem d_Law_forgets_4 : decode prog_4_method_3_code 4 = .ok (.istore_n 1, 1) := by decide +kernel
theorem d_Law_forgets_5 : decode prog_4_method_3_code 5 = .ok (.aload_n 0, 1) := by decide +kernel
theorem d_Law_forgets_6 : decode prog_4_method_3_code 6 = .ok (.iconst 0, 1) := by decide +kernel
theorem d_Law_forgets_7 : decode prog_4_method_3_code 7 = .ok (.putfield 20, 3) := by decide +kernel
theorem d_Law_forgets_10 : decode prog_4_method_3_code 10 = .ok (.iload_n 1, 1) := by decide +kernel
theorem d_Law_forgets_11 : decode prog_4_method_3_code 11 = .ok (.ireturn, 1) := by decide +kernel
theorem d_Law_gives_0 : decode prog_4_method_4_code 0 = .ok (.iconst 0, 1) := by decide +kernel
theorem d_Law_gives_1 : decode prog_4_method_4_code 1 = .ok (.bipush 99, 2) := by decide +kernel
theorem d_Law_gives_3 : decode prog_4_method_4_code 3 = .ok (.aload_n 0, 1) := by decide +kernel
theorem d_Law_gives_4 : decode prog_4_method_4_code 4 = .ok (.getfield 20, 3) := by decide +kernel
theorem d_Law_gives_7 : decode prog_4_method_4_code 7 = .ok (.ifCond .eq 13, 3) := by decide +kernel
theorem d_Law_gives_10 : decode prog_4_method_4_code 10 = .ok (.aload_n 0, 1) := by decide +kernel
theorem d_Law_gives_11 : decode prog_4_method_4_code 11 = .ok (.iload_n 1, 1) := by decide +kernel
theorem d_Law_gives_12 : decode prog_4_method_4_code 12 = .ok (.iload_n 2, 1) := by decide +kernel
theorem d_Law_gives_13 : decode prog_4_method_4_code 13 = .ok (.iload_n 3, 1) := by decide +kernel
theorem d_Law_gives_14 : decode prog_4_method_4_code 14 = .ok (.invokevirtual 43, 3) := by decide +kernel
theorem d_Law_gives_17 : decode prog_4_method_4_code 17 = .ok (.goto 10, 3) := by decide +kernel
theorem d_Law_gives_20 : decode prog_4_method_4_code 20 = .ok (.aload_n 0, 1) := by decide +kernel
theorem d_Law_gives_21 : decode prog_4_method_4_code 21 = .ok (.iload_n 1, 1) := by decide +kernel
theorem d_Law_gives_22 : decode prog_4_method_4_code 22 = .ok (.iload_n 2, 1) := by decide +kernel
theorem d_Law_gives_23 : decode prog_4_method_4_code 23 = .ok (.iload_n 3, 1) := by decide +kernel
theorem d_Law_gives_24 : decode prog_4_method_4_code 24 = .ok (.invokevirtual 47, 3) := by decide +kernel
theorem d_Law_gives_27 : decode prog_4_method_4_code 27 = .ok (.invokestatic 33, 3) := by decide +kernel
theorem d_Law_gives_30 : decode prog_4_method_4_code 30 = .ok (.invokestatic 50, 3) := by decide +kernel
theorem d_Law_gives_33 : decode prog_4_method_4_code 33 = .ok (.ireturn, 1) := by decide +kernel
theorem d_Law_copyFrom_0 : decode prog_4_method_5_code 0 = .ok (.aload_n 0, 1) := by decide +kernel
theorem d_Law_copyFrom_1 : decode prog_4_method_5_code 1 = .ok (.iconst 0, 1) := by decide +kernel
theorem d_Law_copyFrom_2 : decode prog_4_method_5_code 2 = .ok (.aload_n 1, 1) := by decide +kernel
theorem d_Law_copyFrom_3 : decode prog_4_method_5_code 3 = .ok (.getfield 16, 3) := by decide +kernel
theorem d_Law_copyFrom_6 : decode prog_4_method_5_code 6 = .ok (.bipush 60, 2) := by decide +kernel
theorem d_Law_copyFrom_8 : decode prog_4_method_5_code 8 = .ok (.invokestatic 33, 3) := by decide +kernel
theorem d_Law_copyFrom_11 : decode prog_4_method_5_code 11 = .ok (.invokestatic 50, 3) := by decide +kernel
theorem d_Law_copyFrom_14 : decode prog_4_method_5_code 14 = .ok (.putfield 16, 3) := by decide +kernel
theorem d_Law_copyFrom_17 : decode prog_4_method_5_code 17 = .ok (.aload_n 1, 1) := by decide +kernel
theorem d_Law_copyFrom_18 : decode prog_4_method_5_code 18 = .ok (.getfield 9, 3) := by decide +kernel
theorem d_Law_copyFrom_21 : decode prog_4_method_5_code 21 = .ok (.iconst 0, 1) := by decide +kernel
theorem d_Law_copyFrom_22 : decode prog_4_method_5_code 22 = .ok (.aload_n 0, 1) := by decide +kernel
theorem d_Law_copyFrom_23 : decode prog_4_method_5_code 23 = .ok (.getfield 9, 3) := by decide +kernel
theorem d_Law_copyFrom_26 : decode prog_4_method_5_code 26 = .ok (.iconst 0, 1) := by decide +kernel
theorem d_Law_copyFrom_27 : decode prog_4_method_5_code 27 = .ok (.aload_n 0, 1) := by decide +kernel
theorem d_Law_copyFrom_28 : decode prog_4_method_5_code 28 = .ok (.getfield 16, 3) := by decide +kernel
theorem d_Law_copyFrom_31 : decode prog_4_method_5_code 31 = .ok (.invokestatic 53, 3) := by decide +kernel
theorem d_Law_copyFrom_34 : decode prog_4_method_5_code 34 = .ok (.aload_n 0, 1) := by decide +kernel
theorem d_Law_copyFrom_35 : decode prog_4_method_5_code 35 = .ok (.aload_n 1, 1) := by decide +kernel
theorem d_Law_copyFrom_36 : decode prog_4_method_5_code 36 = .ok (.getfield 20, 3) := by decide +kernel
theorem d_Law_copyFrom_39 : decode prog_4_method_5_code 39 = .ok (.putfield 20, 3) := by decide +kernel
theorem d_Law_copyFrom_42 : decode prog_4_method_5_code 42 = .ok (.return_, 1) := by decide +kernel
theorem d_Law_withoutText_0 : decode prog_4_method_6_code 0 = .ok (.aload_n 0, 1) := by decide +kernel
theorem d_Law_withoutText_1 : decode prog_4_method_6_code 1 = .ok (.getfield 24, 3) := by decide +kernel
theorem d_Law_withoutText_4 : decode prog_4_method_6_code 4 = .ok (.ifCond .ne 15, 3) := by decide +kernel
theorem d_Law_withoutText_7 : decode prog_4_method_6_code 7 = .ok (.bipush 9, 2) := by decide +kernel
theorem d_Law_withoutText_9 : decode prog_4_method_6_code 9 = .ok (.iload_n 3, 1) := by decide +kernel
theorem d_Law_withoutText_10 : decode prog_4_method_6_code 10 = .ok (.iadd, 1) := by decide +kernel
theorem d_Law_withoutText_11 : decode prog_4_method_6_code 11 = .ok (.iload_n 1, 1) := by decide +kernel
theorem d_Law_withoutText_12 : decode prog_4_method_6_code 12 = .ok (.bipush 10, 2) := by decide +kernel
theorem d_Law_withoutText_14 : decode prog_4_method_6_code 14 = .ok (.idiv, 1) := by decide +kernel
theorem d_Law_withoutText_15 : decode prog_4_method_6_code 15 = .ok (.isub, 1) := by decide +kernel
theorem d_Law_withoutText_16 : decode prog_4_method_6_code 16 = .ok (.goto 9, 3) := by decide +kernel
theorem d_Law_withoutText_19 : decode prog_4_method_6_code 19 = .ok (.iconst 2, 1) := by decide +kernel
theorem d_Law_withoutText_20 : decode prog_4_method_6_code 20 = .ok (.iload_n 2, 1) := by decide +kernel
theorem d_Law_withoutText_21 : decode prog_4_method_6_code 21 = .ok (.bipush 10, 2) := by decide +kernel
theorem d_Law_withoutText_23 : decode prog_4_method_6_code 23 = .ok (.idiv, 1) := by decide +kernel
theorem d_Law_withoutText_24 : decode prog_4_method_6_code 24 = .ok (.iadd, 1) := by decide +kernel
theorem d_Law_withoutText_25 : decode prog_4_method_6_code 25 = .ok (.ireturn, 1) := by decide +kernel
theorem d_Law_byText_0 : decode prog_4_method_7_code 0 = .ok (.iconst 0, 1) := by decide +kernel
theorem d_Law_byText_1 : decode prog_4_method_7_code 1 = .ok (.istore 4, 2) := by decide +kernel
theorem d_Law_byText_3 : decode prog_4_method_7_code 3 = .ok (.iconst 0, 1) := by decide +kernel
theorem d_Law_byText_4 : decode prog_4_method_7_code 4 = .ok (.istore 5, 2) := by decide +kernel
theorem d_Law_byText_6 : decode prog_4_method_7_code 6 = .ok (.iload 5, 2) := by decide +kernel
theorem d_Law_byText_8 : decode prog_4_method_7_code 8 = .ok (.aload_n 0, 1) := by decide +kernel
theorem d_Law_byText_9 : decode prog_4_method_7_code 9 = .ok (.getfield 16, 3) := by decide +kernel
theorem d_Law_byText_12 : decode prog_4_method_7_code 12 = .ok (.if_icmp .ge 178, 3) := by decide +kernel
theorem d_Law_byText_15 : decode prog_4_method_7_code 15 = .ok (.iload 5, 2) := by decide +kernel
theorem d_Law_byText_17 : decode prog_4_method_7_code 17 = .ok (.aload_n 0, 1) := by decide +kernel
theorem d_Law_byText_18 : decode prog_4_method_7_code 18 = .ok (.getfield 9, 3) := by decide +kernel
theorem d_Law_byText_21 : decode prog_4_method_7_code 21 = .ok (.arraylength, 1) := by decide +kernel
theorem d_Law_byText_22 : decode prog_4_method_7_code 22 = .ok (.if_icmp .ge 168, 3) := by decide +kernel
theorem d_Law_byText_25 : decode prog_4_method_7_code 25 = .ok (.aload_n 0, 1) := by decide +kernel
theorem d_Law_byText_26 : decode prog_4_method_7_code 26 = .ok (.getfield 9, 3) := by decide +kernel
theorem d_Law_byText_29 : decode prog_4_method_7_code 29 = .ok (.iload 5, 2) := by decide +kernel
theorem d_Law_byText_31 : decode prog_4_method_7_code 31 = .ok (.iaload, 1) := by decide +kernel
theorem d_Law_byText_32 : decode prog_4_method_7_code 32 = .ok (.istore 6, 2) := by decide +kernel
theorem d_Law_byText_34 : decode prog_4_method_7_code 34 = .ok (.iload 6, 2) := by decide +kernel
theorem d_Law_byText_36 : decode prog_4_method_7_code 36 = .ok (.bipush (-3), 2) := by decide +kernel
theorem d_Law_byText_38 : decode prog_4_method_7_code 38 = .ok (.if_icmp .lt 44, 3) := by decide +kernel
theorem d_Law_byText_41 : decode prog_4_method_7_code 41 = .ok (.iload 4, 2) := by decide +kernel
theorem d_Law_byText_43 : decode prog_4_method_7_code 43 = .ok (.aload_n 0, 1) := by decide +kernel
theorem d_Law_byText_44 : decode prog_4_method_7_code 44 = .ok (.getfield 13, 3) := by decide +kernel
theorem d_Law_byText_47 : decode prog_4_method_7_code 47 = .ok (.arraylength, 1) := by decide +kernel
theorem d_Law_byText_48 : decode prog_4_method_7_code 48 = .ok (.if_icmp .ge 136, 3) := by decide +kernel
theorem d_Law_byText_51 : decode prog_4_method_7_code 51 = .ok (.aload_n 0, 1) := by decide +kernel
theorem d_Law_byText_52 : decode prog_4_method_7_code 52 = .ok (.getfield 13, 3) := by decide +kernel
theorem d_Law_byText_55 : decode prog_4_method_7_code 55 = .ok (.iload 4, 2) := by decide +kernel
theorem d_Law_byText_57 : decode prog_4_method_7_code 57 = .ok (.iload 6, 2) := by decide +kernel
theorem d_Law_byText_59 : decode prog_4_method_7_code 59 = .ok (.ifCond .lt 8, 3) := by decide +kernel
theorem d_Law_byText_62 : decode prog_4_method_7_code 62 = .ok (.iload 6, 2) := by decide +kernel
theorem d_Law_byText_64 : decode prog_4_method_7_code 64 = .ok (.goto 11, 3) := by decide +kernel
theorem d_Law_byText_67 : decode prog_4_method_7_code 67 = .ok (.iload 6, 2) := by decide +kernel
theorem d_Law_byText_69 : decode prog_4_method_7_code 69 = .ok (.iload_n 1, 1) := by decide +kernel
theorem d_Law_byText_70 : decode prog_4_method_7_code 70 = .ok (.iload_n 2, 1) := by decide +kernel
theorem d_Law_byText_71 : decode prog_4_method_7_code 71 = .ok (.iload_n 3, 1) := by decide +kernel
theorem d_Law_byText_72 : decode prog_4_method_7_code 72 = .ok (.invokestatic 61, 3) := by decide +kernel
theorem d_Law_byText_75 : decode prog_4_method_7_code 75 = .ok (.iastore, 1) := by decide +kernel
theorem d_Law_byText_76 : decode prog_4_method_7_code 76 = .ok (.iinc 4 1, 3) := by decide +kernel
theorem d_Law_byText_79 : decode prog_4_method_7_code 79 = .ok (.goto 105, 3) := by decide +kernel
theorem d_Law_byText_82 : decode prog_4_method_7_code 82 = .ok (.iload 6, 2) := by decide +kernel
theorem d_Law_byText_84 : decode prog_4_method_7_code 84 = .ok (.bipush (-33), 2) := by decide +kernel
theorem d_Law_byText_86 : decode prog_4_method_7_code 86 = .ok (.if_icmp .ne 48, 3) := by decide +kernel
theorem d_Law_byText_89 : decode prog_4_method_7_code 89 = .ok (.iload 4, 2) := by decide +kernel
theorem d_Law_byText_91 : decode prog_4_method_7_code 91 = .ok (.iconst 1, 1) := by decide +kernel
theorem d_Law_byText_92 : decode prog_4_method_7_code 92 = .ok (.if_icmp .lt 92, 3) := by decide +kernel
theorem d_Law_byText_95 : decode prog_4_method_7_code 95 = .ok (.iload 4, 2) := by decide +kernel
theorem d_Law_byText_97 : decode prog_4_method_7_code 97 = .ok (.aload_n 0, 1) := by decide +kernel
theorem d_Law_byText_98 : decode prog_4_method_7_code 98 = .ok (.getfield 13, 3) := by decide +kernel
theorem d_Law_byText_101 : decode prog_4_method_7_code 101 = .ok (.arraylength, 1) := by decide +kernel
theorem d_Law_byText_102 : decode prog_4_method_7_code 102 = .ok (.if_icmp .gt 82, 3) := by decide +kernel
theorem d_Law_byText_105 : decode prog_4_method_7_code 105 = .ok (.aload_n 0, 1) := by decide +kernel
theorem d_Law_byText_106 : decode prog_4_method_7_code 106 = .ok (.getfield 13, 3) := by decide +kernel
theorem d_Law_byText_109 : decode prog_4_method_7_code 109 = .ok (.iload 4, 2) := by decide +kernel
theorem d_Law_byText_111 : decode prog_4_method_7_code 111 = .ok (.iconst 1, 1) := by decide +kernel
theorem d_Law_byText_112 : decode prog_4_method_7_code 112 = .ok (.isub, 1) := by decide +kernel
theorem d_Law_byText_113 : decode prog_4_method_7_code 113 = .ok (.aload_n 0, 1) := by decide +kernel
theorem d_Law_byText_114 : decode prog_4_method_7_code 114 = .ok (.getfield 13, 3) := by decide +kernel
theorem d_Law_byText_117 : decode prog_4_method_7_code 117 = .ok (.iload 4, 2) := by decide +kernel
theorem d_Law_byText_119 : decode prog_4_method_7_code 119 = .ok (.iconst 1, 1) := by decide +kernel
theorem d_Law_byText_120 : decode prog_4_method_7_code 120 = .ok (.isub, 1) := by decide +kernel
theorem d_Law_byText_121 : decode prog_4_method_7_code 121 = .ok (.iaload, 1) := by decide +kernel
theorem d_Law_byText_122 : decode prog_4_method_7_code 122 = .ok (.ifCond .ne 7, 3) := by decide +kernel
theorem d_Law_byText_125 : decode prog_4_method_7_code 125 = .ok (.iconst 1, 1) := by decide +kernel
theorem d_Law_byText_126 : decode prog_4_method_7_code 126 = .ok (.goto 4, 3) := by decide +kernel
theorem d_Law_byText_129 : decode prog_4_method_7_code 129 = .ok (.iconst 0, 1) := by decide +kernel
theorem d_Law_byText_130 : decode prog_4_method_7_code 130 = .ok (.iastore, 1) := by decide +kernel
theorem d_Law_byText_131 : decode prog_4_method_7_code 131 = .ok (.goto 53, 3) := by decide +kernel
theorem d_Law_byText_134 : decode prog_4_method_7_code 134 = .ok (.iload 4, 2) := by decide +kernel
theorem d_Law_byText_136 : decode prog_4_method_7_code 136 = .ok (.iconst 2, 1) := by decide +kernel
theorem d_Law_byText_137 : decode prog_4_method_7_code 137 = .ok (.if_icmp .lt 47, 3) := by decide +kernel
theorem d_Law_byText_140 : decode prog_4_method_7_code 140 = .ok (.iload 4, 2) := by decide +kernel
theorem d_Law_byText_142 : decode prog_4_method_7_code 142 = .ok (.aload_n 0, 1) := by decide +kernel
theorem d_Law_byText_143 : decode prog_4_method_7_code 143 = .ok (.getfield 13, 3) := by decide +kernel
theorem d_Law_byText_146 : decode prog_4_method_7_code 146 = .ok (.arraylength, 1) := by decide +kernel
theorem d_Law_byText_147 : decode prog_4_method_7_code 147 = .ok (.if_icmp .gt 37, 3) := by decide +kernel
theorem d_Law_byText_150 : decode prog_4_method_7_code 150 = .ok (.iinc 4 (-1), 3) := by decide +kernel
theorem d_Law_byText_153 : decode prog_4_method_7_code 153 = .ok (.aload_n 0, 1) := by decide +kernel
theorem d_Law_byText_154 : decode prog_4_method_7_code 154 = .ok (.getfield 13, 3) := by decide +kernel
theorem d_Law_byText_157 : decode prog_4_method_7_code 157 = .ok (.iload 4, 2) := by decide +kernel
theorem d_Law_byText_159 : decode prog_4_method_7_code 159 = .ok (.iconst 1, 1) := by decide +kernel
theorem d_Law_byText_160 : decode prog_4_method_7_code 160 = .ok (.isub, 1) := by decide +kernel
theorem d_Law_byText_161 : decode prog_4_method_7_code 161 = .ok (.iload 6, 2) := by decide +kernel
theorem d_Law_byText_163 : decode prog_4_method_7_code 163 = .ok (.ineg, 1) := by decide +kernel
theorem d_Law_byText_164 : decode prog_4_method_7_code 164 = .ok (.aload_n 0, 1) := by decide +kernel
theorem d_Law_byText_165 : decode prog_4_method_7_code 165 = .ok (.getfield 13, 3) := by decide +kernel
theorem d_Law_byText_168 : decode prog_4_method_7_code 168 = .ok (.iload 4, 2) := by decide +kernel
theorem d_Law_byText_170 : decode prog_4_method_7_code 170 = .ok (.iconst 1, 1) := by decide +kernel
theorem d_Law_byText_171 : decode prog_4_method_7_code 171 = .ok (.isub, 1) := by decide +kernel
theorem d_Law_byText_172 : decode prog_4_method_7_code 172 = .ok (.iaload, 1) := by decide +kernel
theorem d_Law_byText_173 : decode prog_4_method_7_code 173 = .ok (.aload_n 0, 1) := by decide +kernel
theorem d_Law_byText_174 : decode prog_4_method_7_code 174 = .ok (.getfield 13, 3) := by decide +kernel
theorem d_Law_byText_177 : decode prog_4_method_7_code 177 = .ok (.iload 4, 2) := by decide +kernel
theorem d_Law_byText_179 : decode prog_4_method_7_code 179 = .ok (.iaload, 1) := by decide +kernel
theorem d_Law_byText_180 : decode prog_4_method_7_code 180 = .ok (.invokestatic 65, 3) := by decide +kernel
theorem d_Law_byText_183 : decode prog_4_method_7_code 183 = .ok (.iastore, 1) := by decide +kernel
theorem d_Law_byText_184 : decode prog_4_method_7_code 184 = .ok (.iinc 5 1, 3) := by decide +kernel
theorem d_Law_byText_187 : decode prog_4_method_7_code 187 = .ok (.goto (-181), 3) := by decide +kernel
theorem d_Law_byText_190 : decode prog_4_method_7_code 190 = .ok (.iload 4, 2) := by decide +kernel
theorem d_Law_byText_192 : decode prog_4_method_7_code 192 = .ok (.iconst 1, 1) := by decide +kernel
theorem d_Law_byText_193 : decode prog_4_method_7_code 193 = .ok (.if_icmp .lt 12, 3) := by decide +kernel
theorem d_Law_byText_196 : decode prog_4_method_7_code 196 = .ok (.aload_n 0, 1) := by decide +kernel
theorem d_Law_byText_197 : decode prog_4_method_7_code 197 = .ok (.getfield 13, 3) := by decide +kernel
theorem d_Law_byText_200 : decode prog_4_method_7_code 200 = .ok (.iconst 0, 1) := by decide +kernel
theorem d_Law_byText_201 : decode prog_4_method_7_code 201 = .ok (.iaload, 1) := by decide +kernel
theorem d_Law_byText_202 : decode prog_4_method_7_code 202 = .ok (.goto 4, 3) := by decide +kernel
theorem d_Law_byText_205 : decode prog_4_method_7_code 205 = .ok (.iconst 0, 1) := by decide +kernel
theorem d_Law_byText_206 : decode prog_4_method_7_code 206 = .ok (.ireturn, 1) := by decide +kernel
theorem d_Law_valueOf_0 : decode prog_4_method_8_code 0 = .ok (.iload_n 0, 1) := by decide +kernel
theorem d_Law_valueOf_1 : decode prog_4_method_8_code 1 = .ok (.iconst (-1), 1) := by decide +kernel
theorem d_Law_valueOf_2 : decode prog_4_method_8_code 2 = .ok (.if_icmp .ne 7, 3) := by decide +kernel
theorem d_Law_valueOf_5 : decode prog_4_method_8_code 5 = .ok (.iload_n 1, 1) := by decide +kernel
theorem d_Law_valueOf_6 : decode prog_4_method_8_code 6 = .ok (.goto 14, 3) := by decide +kernel
theorem d_Law_valueOf_9 : decode prog_4_method_8_code 9 = .ok (.iload_n 0, 1) := by decide +kernel
theorem d_Law_valueOf_10 : decode prog_4_method_8_code 10 = .ok (.bipush (-2), 2) := by decide +kernel
theorem d_Law_valueOf_12 : decode prog_4_method_8_code 12 = .ok (.if_icmp .ne 7, 3) := by decide +kernel
theorem d_Law_valueOf_15 : decode prog_4_method_8_code 15 = .ok (.iload_n 2, 1) := by decide +kernel
theorem d_Law_valueOf_16 : decode prog_4_method_8_code 16 = .ok (.goto 4, 3) := by decide +kernel
theorem d_Law_valueOf_19 : decode prog_4_method_8_code 19 = .ok (.iload_n 3, 1) := by decide +kernel
theorem d_Law_valueOf_20 : decode prog_4_method_8_code 20 = .ok (.ireturn, 1) := by decide +kernel
theorem d_Law_workedOut_0 : decode prog_4_method_9_code 0 = .ok (.iload_n 0, 1) := by decide +kernel
theorem d_Law_workedOut_1 : decode prog_4_method_9_code 1 = .ok (.lookupswitch 188 #[(37, 176), (38, 105), (42, 160), (43, 152), (45, 156), (47, 164), (60, 119), (61, 130), (62, 141), (124, 91)], 91) := by decide +kernel
theorem d_Law_workedOut_92 : decode prog_4_method_9_code 92 = .ok (.iload_n 1, 1) := by decide +kernel
theorem d_Law_workedOut_93 : decode prog_4_method_9_code 93 = .ok (.ifCond .ne 7, 3) := by decide +kernel
theorem d_Law_workedOut_96 : decode prog_4_method_9_code 96 = .ok (.iload_n 2, 1) := by decide +kernel
theorem d_Law_workedOut_97 : decode prog_4_method_9_code 97 = .ok (.ifCond .eq 7, 3) := by decide +kernel
theorem d_Law_workedOut_100 : decode prog_4_method_9_code 100 = .ok (.iconst 1, 1) := by decide +kernel
theorem d_Law_workedOut_101 : decode prog_4_method_9_code 101 = .ok (.goto 4, 3) := by decide +kernel
theorem d_Law_workedOut_104 : decode prog_4_method_9_code 104 = .ok (.iconst 0, 1) := by decide +kernel
theorem d_Law_workedOut_105 : decode prog_4_method_9_code 105 = .ok (.ireturn, 1) := by decide +kernel
theorem d_Law_workedOut_106 : decode prog_4_method_9_code 106 = .ok (.iload_n 1, 1) := by decide +kernel
theorem d_Law_workedOut_107 : decode prog_4_method_9_code 107 = .ok (.ifCond .eq 11, 3) := by decide +kernel
theorem d_Law_workedOut_110 : decode prog_4_method_9_code 110 = .ok (.iload_n 2, 1) := by decide +kernel
theorem d_Law_workedOut_111 : decode prog_4_method_9_code 111 = .ok (.ifCond .eq 7, 3) := by decide +kernel
theorem d_Law_workedOut_114 : decode prog_4_method_9_code 114 = .ok (.iconst 1, 1) := by decide +kernel
theorem d_Law_workedOut_115 : decode prog_4_method_9_code 115 = .ok (.goto 4, 3) := by decide +kernel
theorem d_Law_workedOut_118 : decode prog_4_method_9_code 118 = .ok (.iconst 0, 1) := by decide +kernel
theorem d_Law_workedOut_119 : decode prog_4_method_9_code 119 = .ok (.ireturn, 1) := by decide +kernel
theorem d_Law_workedOut_120 : decode prog_4_method_9_code 120 = .ok (.iload_n 1, 1) := by decide +kernel
theorem d_Law_workedOut_121 : decode prog_4_method_9_code 121 = .ok (.iload_n 2, 1) := by decide +kernel
theorem d_Law_workedOut_122 : decode prog_4_method_9_code 122 = .ok (.if_icmp .ge 7, 3) := by decide +kernel
theorem d_Law_workedOut_125 : decode prog_4_method_9_code 125 = .ok (.iconst 1, 1) := by decide +kernel
theorem d_Law_workedOut_126 : decode prog_4_method_9_code 126 = .ok (.goto 4, 3) := by decide +kernel
theorem d_Law_workedOut_129 : decode prog_4_method_9_code 129 = .ok (.iconst 0, 1) := by decide +kernel
theorem d_Law_workedOut_130 : decode prog_4_method_9_code 130 = .ok (.ireturn, 1) := by decide +kernel
theorem d_Law_workedOut_131 : decode prog_4_method_9_code 131 = .ok (.iload_n 1, 1) := by decide +kernel
theorem d_Law_workedOut_132 : decode prog_4_method_9_code 132 = .ok (.iload_n 2, 1) := by decide +kernel
theorem d_Law_workedOut_133 : decode prog_4_method_9_code 133 = .ok (.if_icmp .ne 7, 3) := by decide +kernel
theorem d_Law_workedOut_136 : decode prog_4_method_9_code 136 = .ok (.iconst 1, 1) := by decide +kernel
theorem d_Law_workedOut_137 : decode prog_4_method_9_code 137 = .ok (.goto 4, 3) := by decide +kernel
theorem d_Law_workedOut_140 : decode prog_4_method_9_code 140 = .ok (.iconst 0, 1) := by decide +kernel
theorem d_Law_workedOut_141 : decode prog_4_method_9_code 141 = .ok (.ireturn, 1) := by decide +kernel
theorem d_Law_workedOut_142 : decode prog_4_method_9_code 142 = .ok (.iload_n 1, 1) := by decide +kernel
theorem d_Law_workedOut_143 : decode prog_4_method_9_code 143 = .ok (.iload_n 2, 1) := by decide +kernel
theorem d_Law_workedOut_144 : decode prog_4_method_9_code 144 = .ok (.if_icmp .le 7, 3) := by decide +kernel
theorem d_Law_workedOut_147 : decode prog_4_method_9_code 147 = .ok (.iconst 1, 1) := by decide +kernel
theorem d_Law_workedOut_148 : decode prog_4_method_9_code 148 = .ok (.goto 4, 3) := by decide +kernel
theorem d_Law_workedOut_151 : decode prog_4_method_9_code 151 = .ok (.iconst 0, 1) := by decide +kernel
theorem d_Law_workedOut_152 : decode prog_4_method_9_code 152 = .ok (.ireturn, 1) := by decide +kernel
theorem d_Law_workedOut_153 : decode prog_4_method_9_code 153 = .ok (.iload_n 1, 1) := by decide +kernel
theorem d_Law_workedOut_154 : decode prog_4_method_9_code 154 = .ok (.iload_n 2, 1) := by decide +kernel
theorem d_Law_workedOut_155 : decode prog_4_method_9_code 155 = .ok (.iadd, 1) := by decide +kernel
theorem d_Law_workedOut_156 : decode prog_4_method_9_code 156 = .ok (.ireturn, 1) := by decide +kernel
theorem d_Law_workedOut_157 : decode prog_4_method_9_code 157 = .ok (.iload_n 1, 1) := by decide +kernel
theorem d_Law_workedOut_158 : decode prog_4_method_9_code 158 = .ok (.iload_n 2, 1) := by decide +kernel
theorem d_Law_workedOut_159 : decode prog_4_method_9_code 159 = .ok (.isub, 1) := by decide +kernel
theorem d_Law_workedOut_160 : decode prog_4_method_9_code 160 = .ok (.ireturn, 1) := by decide +kernel
theorem d_Law_workedOut_161 : decode prog_4_method_9_code 161 = .ok (.iload_n 1, 1) := by decide +kernel
theorem d_Law_workedOut_162 : decode prog_4_method_9_code 162 = .ok (.iload_n 2, 1) := by decide +kernel
theorem d_Law_workedOut_163 : decode prog_4_method_9_code 163 = .ok (.imul, 1) := by decide +kernel
theorem d_Law_workedOut_164 : decode prog_4_method_9_code 164 = .ok (.ireturn, 1) := by decide +kernel
theorem d_Law_workedOut_165 : decode prog_4_method_9_code 165 = .ok (.iload_n 2, 1) := by decide +kernel
theorem d_Law_workedOut_166 : decode prog_4_method_9_code 166 = .ok (.ifCond .ne 7, 3) := by decide +kernel
theorem d_Law_workedOut_169 : decode prog_4_method_9_code 169 = .ok (.iconst 0, 1) := by decide +kernel
theorem d_Law_workedOut_170 : decode prog_4_method_9_code 170 = .ok (.goto 6, 3) := by decide +kernel
theorem d_Law_workedOut_173 : decode prog_4_method_9_code 173 = .ok (.iload_n 1, 1) := by decide +kernel
theorem d_Law_workedOut_174 : decode prog_4_method_9_code 174 = .ok (.iload_n 2, 1) := by decide +kernel
theorem d_Law_workedOut_175 : decode prog_4_method_9_code 175 = .ok (.idiv, 1) := by decide +kernel
theorem d_Law_workedOut_176 : decode prog_4_method_9_code 176 = .ok (.ireturn, 1) := by decide +kernel
theorem d_Law_workedOut_177 : decode prog_4_method_9_code 177 = .ok (.iload_n 2, 1) := by decide +kernel
theorem d_Law_workedOut_178 : decode prog_4_method_9_code 178 = .ok (.ifCond .ne 7, 3) := by decide +kernel
theorem d_Law_workedOut_181 : decode prog_4_method_9_code 181 = .ok (.iconst 0, 1) := by decide +kernel
theorem d_Law_workedOut_182 : decode prog_4_method_9_code 182 = .ok (.goto 6, 3) := by decide +kernel
theorem d_Law_workedOut_185 : decode prog_4_method_9_code 185 = .ok (.iload_n 1, 1) := by decide +kernel
theorem d_Law_workedOut_186 : decode prog_4_method_9_code 186 = .ok (.iload_n 2, 1) := by decide +kernel
theorem d_Law_workedOut_187 : decode prog_4_method_9_code 187 = .ok (.irem, 1) := by decide +kernel
theorem d_Law_workedOut_188 : decode prog_4_method_9_code 188 = .ok (.ireturn, 1) := by decide +kernel
theorem d_Law_workedOut_189 : decode prog_4_method_9_code 189 = .ok (.iconst 0, 1) := by decide +kernel
theorem d_Law_workedOut_190 : decode prog_4_method_9_code 190 = .ok (.ireturn, 1) := by decide +kernel
theorem d_Read_init_0 : decode prog_7_method_1_code 0 = .ok (.aload_n 0, 1) := by decide +kernel
theorem d_Read_init_1 : decode prog_7_method_1_code 1 = .ok (.invokespecial 1, 3) := by decide +kernel
theorem d_Read_init_4 : decode prog_7_method_1_code 4 = .ok (.aload_n 0, 1) := by decide +kernel
theorem d_Read_init_5 : decode prog_7_method_1_code 5 = .ok (.new 7, 3) := by decide +kernel
theorem d_Read_init_8 : decode prog_7_method_1_code 8 = .ok (.dup, 1) := by decide +kernel
theorem d_Read_init_9 : decode prog_7_method_1_code 9 = .ok (.bipush 60, 2) := by decide +kernel
theorem d_Read_init_11 : decode prog_7_method_1_code 11 = .ok (.invokespecial 11, 3) := by decide +kernel
theorem d_Read_init_14 : decode prog_7_method_1_code 14 = .ok (.putfield 14, 3) := by decide +kernel
theorem d_Read_init_17 : decode prog_7_method_1_code 17 = .ok (.aload_n 0, 1) := by decide +kernel
theorem d_Read_init_18 : decode prog_7_method_1_code 18 = .ok (.new 7, 3) := by decide +kernel
theorem d_Read_init_21 : decode prog_7_method_1_code 21 = .ok (.dup, 1) := by decide +kernel
theorem d_Read_init_22 : decode prog_7_method_1_code 22 = .ok (.bipush 60, 2) := by decide +kernel
theorem d_Read_init_24 : decode prog_7_method_1_code 24 = .ok (.invokespecial 11, 3) := by decide +kernel
theorem d_Read_init_27 : decode prog_7_method_1_code 27 = .ok (.putfield 20, 3) := by decide +kernel
theorem d_Read_init_30 : decode prog_7_method_1_code 30 = .ok (.aload_n 0, 1) := by decide +kernel
theorem d_Read_init_31 : decode prog_7_method_1_code 31 = .ok (.iconst 0, 1) := by decide +kernel
theorem d_Read_init_32 : decode prog_7_method_1_code 32 = .ok (.putfield 23, 3) := by decide +kernel
theorem d_Read_init_35 : decode prog_7_method_1_code 35 = .ok (.aload_n 0, 1) := by decide +kernel
theorem d_Read_init_36 : decode prog_7_method_1_code 36 = .ok (.iconst 0, 1) := by decide +kernel
theorem d_Read_init_37 : decode prog_7_method_1_code 37 = .ok (.putfield 27, 3) := by decide +kernel
theorem d_Read_init_40 : decode prog_7_method_1_code 40 = .ok (.return_, 1) := by decide +kernel
theorem d_Read_reads_0 : decode prog_7_method_2_code 0 = .ok (.aload_n 0, 1) := by decide +kernel
theorem d_Read_reads_1 : decode prog_7_method_2_code 1 = .ok (.getfield 14, 3) := by decide +kernel
theorem d_Read_reads_4 : decode prog_7_method_2_code 4 = .ok (.aload_n 1, 1) := by decide +kernel
theorem d_Read_reads_5 : decode prog_7_method_2_code 5 = .ok (.invokevirtual 30, 3) := by decide +kernel
theorem d_Read_reads_8 : decode prog_7_method_2_code 8 = .ok (.aload_n 0, 1) := by decide +kernel
theorem d_Read_reads_9 : decode prog_7_method_2_code 9 = .ok (.getfield 20, 3) := by decide +kernel
theorem d_Read_reads_12 : decode prog_7_method_2_code 12 = .ok (.invokevirtual 34, 3) := by decide +kernel
theorem d_Read_reads_15 : decode prog_7_method_2_code 15 = .ok (.aload_n 0, 1) := by decide +kernel
theorem d_Read_reads_16 : decode prog_7_method_2_code 16 = .ok (.iload_n 2, 1) := by decide +kernel
theorem d_Read_reads_17 : decode prog_7_method_2_code 17 = .ok (.putfield 23, 3) := by decide +kernel
theorem d_Read_reads_20 : decode prog_7_method_2_code 20 = .ok (.aload_n 0, 1) := by decide +kernel
theorem d_Read_reads_21 : decode prog_7_method_2_code 21 = .ok (.iconst 0, 1) := by decide +kernel
theorem d_Read_reads_22 : decode prog_7_method_2_code 22 = .ok (.putfield 27, 3) := by decide +kernel
theorem d_Read_reads_25 : decode prog_7_method_2_code 25 = .ok (.aload_n 0, 1) := by decide +kernel
theorem d_Read_reads_26 : decode prog_7_method_2_code 26 = .ok (.iconst 0, 1) := by decide +kernel
theorem d_Read_reads_27 : decode prog_7_method_2_code 27 = .ok (.iconst 0, 1) := by decide +kernel
theorem d_Read_reads_28 : decode prog_7_method_2_code 28 = .ok (.invokevirtual 37, 3) := by decide +kernel
theorem d_Read_reads_31 : decode prog_7_method_2_code 31 = .ok (.ifCond .eq 21, 3) := by decide +kernel
theorem d_Read_reads_34 : decode prog_7_method_2_code 34 = .ok (.aload_n 0, 1) := by decide +kernel
theorem d_Read_reads_35 : decode prog_7_method_2_code 35 = .ok (.getfield 27, 3) := by decide +kernel
theorem d_Read_reads_38 : decode prog_7_method_2_code 38 = .ok (.aload_n 0, 1) := by decide +kernel
theorem d_Read_reads_39 : decode prog_7_method_2_code 39 = .ok (.getfield 14, 3) := by decide +kernel
theorem d_Read_reads_42 : decode prog_7_method_2_code 42 = .ok (.invokevirtual 41, 3) := by decide +kernel
theorem d_Read_reads_45 : decode prog_7_method_2_code 45 = .ok (.if_icmp .ne 7, 3) := by decide +kernel
theorem d_Read_reads_48 : decode prog_7_method_2_code 48 = .ok (.iconst 1, 1) := by decide +kernel
theorem d_Read_reads_49 : decode prog_7_method_2_code 49 = .ok (.goto 4, 3) := by decide +kernel
theorem d_Read_reads_52 : decode prog_7_method_2_code 52 = .ok (.iconst 0, 1) := by decide +kernel
theorem d_Read_reads_53 : decode prog_7_method_2_code 53 = .ok (.ireturn, 1) := by decide +kernel
theorem d_Read_place_0 : decode prog_7_method_3_code 0 = .ok (.aload_n 0, 1) := by decide +kernel
theorem d_Read_place_1 : decode prog_7_method_3_code 1 = .ok (.getfield 27, 3) := by decide +kernel
theorem d_Read_place_4 : decode prog_7_method_3_code 4 = .ok (.ireturn, 1) := by decide +kernel
theorem d_Read_code_0 : decode prog_7_method_4_code 0 = .ok (.aload_n 0, 1) := by decide +kernel
theorem d_Read_code_1 : decode prog_7_method_4_code 1 = .ok (.getfield 20, 3) := by decide +kernel
theorem d_Read_code_4 : decode prog_7_method_4_code 4 = .ok (.areturn, 1) := by decide +kernel
theorem d_Read_readsPart_0 : decode prog_7_method_5_code 0 = .ok (.iload_n 1, 1) := by decide +kernel
theorem d_Read_readsPart_1 : decode prog_7_method_5_code 1 = .ok (.iconst 4, 1) := by decide +kernel
theorem d_Read_readsPart_2 : decode prog_7_method_5_code 2 = .ok (.if_icmp .le 11, 3) := by decide +kernel
theorem d_Read_readsPart_5 : decode prog_7_method_5_code 5 = .ok (.aload_n 0, 1) := by decide +kernel
theorem d_Read_readsPart_6 : decode prog_7_method_5_code 6 = .ok (.iload_n 2, 1) := by decide +kernel
theorem d_Read_readsPart_7 : decode prog_7_method_5_code 7 = .ok (.invokevirtual 45, 3) := by decide +kernel
theorem d_Read_readsPart_10 : decode prog_7_method_5_code 10 = .ok (.goto 9, 3) := by decide +kernel
theorem d_Read_readsPart_13 : decode prog_7_method_5_code 13 = .ok (.aload_n 0, 1) := by decide +kernel
theorem d_Read_readsPart_14 : decode prog_7_method_5_code 14 = .ok (.iload_n 1, 1) := by decide +kernel
theorem d_Read_readsPart_15 : decode prog_7_method_5_code 15 = .ok (.iload_n 2, 1) := by decide +kernel
theorem d_Read_readsPart_16 : decode prog_7_method_5_code 16 = .ok (.invokevirtual 49, 3) := by decide +kernel
theorem d_Read_readsPart_19 : decode prog_7_method_5_code 19 = .ok (.ireturn, 1) := by decide +kernel
theorem d_Read_readsLevel_0 : decode prog_7_method_6_code 0 = .ok (.aload_n 0, 1) := by decide +kernel
theorem d_Read_readsLevel_1 : decode prog_7_method_6_code 1 = .ok (.iload_n 1, 1) := by decide +kernel
theorem d_Read_readsLevel_2 : decode prog_7_method_6_code 2 = .ok (.iconst 1, 1) := by decide +kernel
theorem d_Read_readsLevel_3 : decode prog_7_method_6_code 3 = .ok (.iadd, 1) := by decide +kernel
theorem d_Read_readsLevel_4 : decode prog_7_method_6_code 4 = .ok (.iload_n 2, 1) := by decide +kernel
theorem d_Read_readsLevel_5 : decode prog_7_method_6_code 5 = .ok (.invokevirtual 37, 3) := by decide +kernel
theorem d_Read_readsLevel_8 : decode prog_7_method_6_code 8 = .ok (.ifCond .ne 5, 3) := by decide +kernel
theorem d_Read_readsLevel_11 : decode prog_7_method_6_code 11 = .ok (.iconst 0, 1) := by decide +kernel
theorem d_Read_readsLevel_12 : decode prog_7_method_6_code 12 = .ok (.ireturn, 1) := by decide +kernel
theorem d_Read_readsLevel_13 : decode prog_7_method_6_code 13 = .ok (.iload_n 1, 1) := by decide +kernel
theorem d_Read_readsLevel_14 : decode prog_7_method_6_code 14 = .ok (.iconst 2, 1) := by decide +kernel
theorem d_Read_readsLevel_15 : decode prog_7_method_6_code 15 = .ok (.if_icmp .ne 7, 3) := by decide +kernel
theorem d_Read_readsLevel_18 : decode prog_7_method_6_code 18 = .ok (.iconst 1, 1) := by decide +kernel
theorem d_Read_readsLevel_19 : decode prog_7_method_6_code 19 = .ok (.goto 5, 3) := by decide +kernel
theorem d_Read_readsLevel_22 : decode prog_7_method_6_code 22 = .ok (.bipush 60, 2) := by decide +kernel
theorem d_Read_readsLevel_24 : decode prog_7_method_6_code 24 = .ok (.istore_n 3, 1) := by decide +kernel
theorem d_Read_readsLevel_25 : decode prog_7_method_6_code 25 = .ok (.iconst 0, 1) := by decide +kernel
theorem d_Read_readsLevel_26 : decode prog_7_method_6_code 26 = .ok (.istore 4, 2) := by decide +kernel
theorem d_Read_readsLevel_28 : decode prog_7_method_6_code 28 = .ok (.iload 4, 2) := by decide +kernel
theorem d_Read_readsLevel_30 : decode prog_7_method_6_code 30 = .ok (.iload_n 3, 1) := by decide +kernel
theorem d_Read_readsLevel_31 : decode prog_7_method_6_code 31 = .ok (.if_icmp .ge 59, 3) := by decide +kernel
theorem d_Read_readsLevel_34 : decode prog_7_method_6_code 34 = .ok (.aload_n 0, 1) := by decide +kernel
theorem d_Read_readsLevel_35 : decode prog_7_method_6_code 35 = .ok (.invokevirtual 52, 3) := by decide +kernel
theorem d_Read_readsLevel_38 : decode prog_7_method_6_code 38 = .ok (.invokestatic 55, 3) := by decide +kernel
theorem d_Read_readsLevel_41 : decode prog_7_method_6_code 41 = .ok (.iload_n 1, 1) := by decide +kernel
theorem d_Read_readsLevel_42 : decode prog_7_method_6_code 42 = .ok (.if_icmp .ne 48, 3) := by decide +kernel
theorem d_Read_readsLevel_45 : decode prog_7_method_6_code 45 = .ok (.aload_n 0, 1) := by decide +kernel
theorem d_Read_readsLevel_46 : decode prog_7_method_6_code 46 = .ok (.invokevirtual 52, 3) := by decide +kernel
theorem d_Read_readsLevel_49 : decode prog_7_method_6_code 49 = .ok (.istore 5, 2) := by decide +kernel
theorem d_Read_readsLevel_51 : decode prog_7_method_6_code 51 = .ok (.aload_n 0, 1) := by decide +kernel
theorem d_Read_readsLevel_52 : decode prog_7_method_6_code 52 = .ok (.dup, 1) := by decide +kernel
theorem d_Read_readsLevel_53 : decode prog_7_method_6_code 53 = .ok (.getfield 27, 3) := by decide +kernel
theorem d_Read_readsLevel_56 : decode prog_7_method_6_code 56 = .ok (.iconst 1, 1) := by decide +kernel
theorem d_Read_readsLevel_57 : decode prog_7_method_6_code 57 = .ok (.iadd, 1) := by decide +kernel
theorem d_Read_readsLevel_58 : decode prog_7_method_6_code 58 = .ok (.putfield 27, 3) := by decide +kernel
theorem d_Read_readsLevel_61 : decode prog_7_method_6_code 61 = .ok (.aload_n 0, 1) := by decide +kernel
theorem d_Read_readsLevel_62 : decode prog_7_method_6_code 62 = .ok (.iload_n 1, 1) := by decide +kernel
theorem d_Read_readsLevel_63 : decode prog_7_method_6_code 63 = .ok (.iconst 1, 1) := by decide +kernel
theorem d_Read_readsLevel_64 : decode prog_7_method_6_code 64 = .ok (.iadd, 1) := by decide +kernel
theorem d_Read_readsLevel_65 : decode prog_7_method_6_code 65 = .ok (.iload_n 2, 1) := by decide +kernel
theorem d_Read_readsLevel_66 : decode prog_7_method_6_code 66 = .ok (.invokevirtual 37, 3) := by decide +kernel
theorem d_Read_readsLevel_69 : decode prog_7_method_6_code 69 = .ok (.ifCond .ne 5, 3) := by decide +kernel
theorem d_Read_readsLevel_72 : decode prog_7_method_6_code 72 = .ok (.iconst 0, 1) := by decide +kernel
theorem d_Read_readsLevel_73 : decode prog_7_method_6_code 73 = .ok (.ireturn, 1) := by decide +kernel
theorem d_Read_readsLevel_74 : decode prog_7_method_6_code 74 = .ok (.aload_n 0, 1) := by decide +kernel
theorem d_Read_readsLevel_75 : decode prog_7_method_6_code 75 = .ok (.getfield 20, 3) := by decide +kernel
theorem d_Read_readsLevel_78 : decode prog_7_method_6_code 78 = .ok (.iload 5, 2) := by decide +kernel
theorem d_Read_readsLevel_80 : decode prog_7_method_6_code 80 = .ok (.ineg, 1) := by decide +kernel
theorem d_Read_readsLevel_81 : decode prog_7_method_6_code 81 = .ok (.invokevirtual 59, 3) := by decide +kernel
theorem d_Read_readsLevel_84 : decode prog_7_method_6_code 84 = .ok (.iinc 4 1, 3) := by decide +kernel
theorem d_Read_readsLevel_87 : decode prog_7_method_6_code 87 = .ok (.goto (-59), 3) := by decide +kernel
theorem d_Read_readsLevel_90 : decode prog_7_method_6_code 90 = .ok (.iconst 1, 1) := by decide +kernel
theorem d_Read_readsLevel_91 : decode prog_7_method_6_code 91 = .ok (.ireturn, 1) := by decide +kernel
theorem d_Read_readsLeaf_0 : decode prog_7_method_7_code 0 = .ok (.aload_n 0, 1) := by decide +kernel
theorem d_Read_readsLeaf_1 : decode prog_7_method_7_code 1 = .ok (.invokevirtual 52, 3) := by decide +kernel
theorem d_Read_readsLeaf_4 : decode prog_7_method_7_code 4 = .ok (.istore_n 2, 1) := by decide +kernel
theorem d_Read_readsLeaf_5 : decode prog_7_method_7_code 5 = .ok (.iload_n 2, 1) := by decide +kernel
theorem d_Read_readsLeaf_6 : decode prog_7_method_7_code 6 = .ok (.invokestatic 62, 3) := by decide +kernel
theorem d_Read_readsLeaf_9 : decode prog_7_method_7_code 9 = .ok (.ifCond .eq 9, 3) := by decide +kernel
theorem d_Read_readsLeaf_12 : decode prog_7_method_7_code 12 = .ok (.aload_n 0, 1) := by decide +kernel
theorem d_Read_readsLeaf_13 : decode prog_7_method_7_code 13 = .ok (.invokevirtual 65, 3) := by decide +kernel
theorem d_Read_readsLeaf_16 : decode prog_7_method_7_code 16 = .ok (.iconst 1, 1) := by decide +kernel
theorem d_Read_readsLeaf_17 : decode prog_7_method_7_code 17 = .ok (.ireturn, 1) := by decide +kernel
theorem d_Read_readsLeaf_18 : decode prog_7_method_7_code 18 = .ok (.iload_n 2, 1) := by decide +kernel
theorem d_Read_readsLeaf_19 : decode prog_7_method_7_code 19 = .ok (.bipush 33, 2) := by decide +kernel
theorem d_Read_readsLeaf_21 : decode prog_7_method_7_code 21 = .ok (.if_icmp .eq 9, 3) := by decide +kernel
theorem d_Read_readsLeaf_24 : decode prog_7_method_7_code 24 = .ok (.iload_n 2, 1) := by decide +kernel
theorem d_Read_readsLeaf_25 : decode prog_7_method_7_code 25 = .ok (.bipush 40, 2) := by decide +kernel
theorem d_Read_readsLeaf_27 : decode prog_7_method_7_code 27 = .ok (.if_icmp .ne 25, 3) := by decide +kernel
theorem d_Read_readsLeaf_30 : decode prog_7_method_7_code 30 = .ok (.iload_n 1, 1) := by decide +kernel
theorem d_Read_readsLeaf_31 : decode prog_7_method_7_code 31 = .ok (.iconst 5, 1) := by decide +kernel
theorem d_Read_readsLeaf_32 : decode prog_7_method_7_code 32 = .ok (.if_icmp .ge 18, 3) := by decide +kernel
theorem d_Read_readsLeaf_35 : decode prog_7_method_7_code 35 = .ok (.aload_n 0, 1) := by decide +kernel
theorem d_Read_readsLeaf_36 : decode prog_7_method_7_code 36 = .ok (.iload_n 2, 1) := by decide +kernel
theorem d_Read_readsLeaf_37 : decode prog_7_method_7_code 37 = .ok (.iload_n 1, 1) := by decide +kernel
theorem d_Read_readsLeaf_38 : decode prog_7_method_7_code 38 = .ok (.iconst 1, 1) := by decide +kernel
theorem d_Read_readsLeaf_39 : decode prog_7_method_7_code 39 = .ok (.iadd, 1) := by decide +kernel
theorem d_Read_readsLeaf_40 : decode prog_7_method_7_code 40 = .ok (.invokevirtual 68, 3) := by decide +kernel
theorem d_Read_readsLeaf_43 : decode prog_7_method_7_code 43 = .ok (.ifCond .eq 7, 3) := by decide +kernel
theorem d_Read_readsLeaf_46 : decode prog_7_method_7_code 46 = .ok (.iconst 1, 1) := by decide +kernel
theorem d_Read_readsLeaf_47 : decode prog_7_method_7_code 47 = .ok (.goto 4, 3) := by decide +kernel
theorem d_Read_readsLeaf_50 : decode prog_7_method_7_code 50 = .ok (.iconst 0, 1) := by decide +kernel
theorem d_Read_readsLeaf_51 : decode prog_7_method_7_code 51 = .ok (.ireturn, 1) := by decide +kernel
theorem d_Read_readsLeaf_52 : decode prog_7_method_7_code 52 = .ok (.aload_n 0, 1) := by decide +kernel
theorem d_Read_readsLeaf_53 : decode prog_7_method_7_code 53 = .ok (.iload_n 2, 1) := by decide +kernel
theorem d_Read_readsLeaf_54 : decode prog_7_method_7_code 54 = .ok (.invokevirtual 71, 3) := by decide +kernel
theorem d_Read_readsLeaf_57 : decode prog_7_method_7_code 57 = .ok (.istore_n 3, 1) := by decide +kernel
theorem d_Read_readsLeaf_58 : decode prog_7_method_7_code 58 = .ok (.iload_n 3, 1) := by decide +kernel
theorem d_Read_readsLeaf_59 : decode prog_7_method_7_code 59 = .ok (.ifCond .ne 5, 3) := by decide +kernel
theorem d_Read_readsLeaf_62 : decode prog_7_method_7_code 62 = .ok (.iconst 0, 1) := by decide +kernel
theorem d_Read_readsLeaf_63 : decode prog_7_method_7_code 63 = .ok (.ireturn, 1) := by decide +kernel
theorem d_Read_readsLeaf_64 : decode prog_7_method_7_code 64 = .ok (.aload_n 0, 1) := by decide +kernel
theorem d_Read_readsLeaf_65 : decode prog_7_method_7_code 65 = .ok (.dup, 1) := by decide +kernel
theorem d_Read_readsLeaf_66 : decode prog_7_method_7_code 66 = .ok (.getfield 27, 3) := by decide +kernel
theorem d_Read_readsLeaf_69 : decode prog_7_method_7_code 69 = .ok (.iconst 1, 1) := by decide +kernel
theorem d_Read_readsLeaf_70 : decode prog_7_method_7_code 70 = .ok (.iadd, 1) := by decide +kernel
theorem d_Read_readsLeaf_71 : decode prog_7_method_7_code 71 = .ok (.putfield 27, 3) := by decide +kernel
theorem d_Read_readsLeaf_74 : decode prog_7_method_7_code 74 = .ok (.aload_n 0, 1) := by decide +kernel
theorem d_Read_readsLeaf_75 : decode prog_7_method_7_code 75 = .ok (.getfield 20, 3) := by decide +kernel
theorem d_Read_readsLeaf_78 : decode prog_7_method_7_code 78 = .ok (.iload_n 3, 1) := by decide +kernel
theorem d_Read_readsLeaf_79 : decode prog_7_method_7_code 79 = .ok (.ineg, 1) := by decide +kernel
theorem d_Read_readsLeaf_80 : decode prog_7_method_7_code 80 = .ok (.invokevirtual 59, 3) := by decide +kernel
theorem d_Read_readsLeaf_83 : decode prog_7_method_7_code 83 = .ok (.iconst 1, 1) := by decide +kernel
theorem d_Read_readsLeaf_84 : decode prog_7_method_7_code 84 = .ok (.ireturn, 1) := by decide +kernel
theorem d_Read_readsOpened_0 : decode prog_7_method_8_code 0 = .ok (.aload_n 0, 1) := by decide +kernel
theorem d_Read_readsOpened_1 : decode prog_7_method_8_code 1 = .ok (.dup, 1) := by decide +kernel
theorem d_Read_readsOpened_2 : decode prog_7_method_8_code 2 = .ok (.getfield 27, 3) := by decide +kernel
theorem d_Read_readsOpened_5 : decode prog_7_method_8_code 5 = .ok (.iconst 1, 1) := by decide +kernel
theorem d_Read_readsOpened_6 : decode prog_7_method_8_code 6 = .ok (.iadd, 1) := by decide +kernel
theorem d_Read_readsOpened_7 : decode prog_7_method_8_code 7 = .ok (.putfield 27, 3) := by decide +kernel
theorem d_Read_readsOpened_10 : decode prog_7_method_8_code 10 = .ok (.iload_n 1, 1) := by decide +kernel
theorem d_Read_readsOpened_11 : decode prog_7_method_8_code 11 = .ok (.bipush 33, 2) := by decide +kernel
theorem d_Read_readsOpened_13 : decode prog_7_method_8_code 13 = .ok (.if_icmp .ne 20, 3) := by decide +kernel
theorem d_Read_readsOpened_16 : decode prog_7_method_8_code 16 = .ok (.aload_n 0, 1) := by decide +kernel
theorem d_Read_readsOpened_17 : decode prog_7_method_8_code 17 = .ok (.iload_n 2, 1) := by decide +kernel
theorem d_Read_readsOpened_18 : decode prog_7_method_8_code 18 = .ok (.invokevirtual 45, 3) := by decide +kernel
theorem d_Read_readsOpened_21 : decode prog_7_method_8_code 21 = .ok (.istore_n 3, 1) := by decide +kernel
theorem d_Read_readsOpened_22 : decode prog_7_method_8_code 22 = .ok (.aload_n 0, 1) := by decide +kernel
theorem d_Read_readsOpened_23 : decode prog_7_method_8_code 23 = .ok (.getfield 20, 3) := by decide +kernel
theorem d_Read_readsOpened_26 : decode prog_7_method_8_code 26 = .ok (.bipush (-33), 2) := by decide +kernel
theorem d_Read_readsOpened_28 : decode prog_7_method_8_code 28 = .ok (.invokevirtual 59, 3) := by decide +kernel
theorem d_Read_readsOpened_31 : decode prog_7_method_8_code 31 = .ok (.iload_n 3, 1) := by decide +kernel
theorem d_Read_readsOpened_32 : decode prog_7_method_8_code 32 = .ok (.ireturn, 1) := by decide +kernel
theorem d_Read_readsOpened_33 : decode prog_7_method_8_code 33 = .ok (.aload_n 0, 1) := by decide +kernel
theorem d_Read_readsOpened_34 : decode prog_7_method_8_code 34 = .ok (.iconst 0, 1) := by decide +kernel
theorem d_Read_readsOpened_35 : decode prog_7_method_8_code 35 = .ok (.iload_n 2, 1) := by decide +kernel
theorem d_Read_readsOpened_36 : decode prog_7_method_8_code 36 = .ok (.invokevirtual 37, 3) := by decide +kernel
theorem d_Read_readsOpened_39 : decode prog_7_method_8_code 39 = .ok (.ifCond .eq 12, 3) := by decide +kernel
theorem d_Read_readsOpened_42 : decode prog_7_method_8_code 42 = .ok (.aload_n 0, 1) := by decide +kernel
theorem d_Read_readsOpened_43 : decode prog_7_method_8_code 43 = .ok (.invokevirtual 52, 3) := by decide +kernel
theorem d_Read_readsOpened_46 : decode prog_7_method_8_code 46 = .ok (.bipush 41, 2) := by decide +kernel
theorem d_Read_readsOpened_48 : decode prog_7_method_8_code 48 = .ok (.if_icmp .eq 5, 3) := by decide +kernel
theorem d_Read_readsOpened_51 : decode prog_7_method_8_code 51 = .ok (.iconst 0, 1) := by decide +kernel
theorem d_Read_readsOpened_52 : decode prog_7_method_8_code 52 = .ok (.ireturn, 1) := by decide +kernel
theorem d_Read_readsOpened_53 : decode prog_7_method_8_code 53 = .ok (.aload_n 0, 1) := by decide +kernel
theorem d_Read_readsOpened_54 : decode prog_7_method_8_code 54 = .ok (.dup, 1) := by decide +kernel
theorem d_Read_readsOpened_55 : decode prog_7_method_8_code 55 = .ok (.getfield 27, 3) := by decide +kernel
theorem d_Read_readsOpened_58 : decode prog_7_method_8_code 58 = .ok (.iconst 1, 1) := by decide +kernel
theorem d_Read_readsOpened_59 : decode prog_7_method_8_code 59 = .ok (.iadd, 1) := by decide +kernel
theorem d_Read_readsOpened_60 : decode prog_7_method_8_code 60 = .ok (.putfield 27, 3) := by decide +kernel
theorem d_Read_readsOpened_63 : decode prog_7_method_8_code 63 = .ok (.iconst 1, 1) := by decide +kernel
theorem d_Read_readsOpened_64 : decode prog_7_method_8_code 64 = .ok (.ireturn, 1) := by decide +kernel
theorem d_Read_readNumber_0 : decode prog_7_method_9_code 0 = .ok (.iconst 0, 1) := by decide +kernel
theorem d_Read_readNumber_1 : decode prog_7_method_9_code 1 = .ok (.istore_n 1, 1) := by decide +kernel
theorem d_Read_readNumber_2 : decode prog_7_method_9_code 2 = .ok (.iconst 0, 1) := by decide +kernel
theorem d_Read_readNumber_3 : decode prog_7_method_9_code 3 = .ok (.istore_n 2, 1) := by decide +kernel
theorem d_Read_readNumber_4 : decode prog_7_method_9_code 4 = .ok (.iload_n 2, 1) := by decide +kernel
theorem d_Read_readNumber_5 : decode prog_7_method_9_code 5 = .ok (.iconst 4, 1) := by decide +kernel
theorem d_Read_readNumber_6 : decode prog_7_method_9_code 6 = .ok (.if_icmp .ge 42, 3) := by decide +kernel
theorem d_Read_readNumber_9 : decode prog_7_method_9_code 9 = .ok (.aload_n 0, 1) := by decide +kernel
theorem d_Read_readNumber_10 : decode prog_7_method_9_code 10 = .ok (.invokevirtual 52, 3) := by decide +kernel
theorem d_Read_readNumber_13 : decode prog_7_method_9_code 13 = .ok (.invokestatic 62, 3) := by decide +kernel
theorem d_Read_readNumber_16 : decode prog_7_method_9_code 16 = .ok (.ifCond .eq 32, 3) := by decide +kernel
theorem d_Read_readNumber_19 : decode prog_7_method_9_code 19 = .ok (.iload_n 1, 1) := by decide +kernel
theorem d_Read_readNumber_20 : decode prog_7_method_9_code 20 = .ok (.bipush 10, 2) := by decide +kernel
theorem d_Read_readNumber_22 : decode prog_7_method_9_code 22 = .ok (.imul, 1) := by decide +kernel
theorem d_Read_readNumber_23 : decode prog_7_method_9_code 23 = .ok (.aload_n 0, 1) := by decide +kernel
theorem d_Read_readNumber_24 : decode prog_7_method_9_code 24 = .ok (.invokevirtual 52, 3) := by decide +kernel
theorem d_Read_readNumber_27 : decode prog_7_method_9_code 27 = .ok (.iadd, 1) := by decide +kernel
theorem d_Read_readNumber_28 : decode prog_7_method_9_code 28 = .ok (.bipush 48, 2) := by decide +kernel
theorem d_Read_readNumber_30 : decode prog_7_method_9_code 30 = .ok (.isub, 1) := by decide +kernel
theorem d_Read_readNumber_31 : decode prog_7_method_9_code 31 = .ok (.istore_n 1, 1) := by decide +kernel
theorem d_Read_readNumber_32 : decode prog_7_method_9_code 32 = .ok (.aload_n 0, 1) := by decide +kernel
theorem d_Read_readNumber_33 : decode prog_7_method_9_code 33 = .ok (.dup, 1) := by decide +kernel
theorem d_Read_readNumber_34 : decode prog_7_method_9_code 34 = .ok (.getfield 27, 3) := by decide +kernel
theorem d_Read_readNumber_37 : decode prog_7_method_9_code 37 = .ok (.iconst 1, 1) := by decide +kernel
theorem d_Read_readNumber_38 : decode prog_7_method_9_code 38 = .ok (.iadd, 1) := by decide +kernel
theorem d_Read_readNumber_39 : decode prog_7_method_9_code 39 = .ok (.putfield 27, 3) := by decide +kernel
theorem d_Read_readNumber_42 : decode prog_7_method_9_code 42 = .ok (.iinc 2 1, 3) := by decide +kernel
theorem d_Read_readNumber_45 : decode prog_7_method_9_code 45 = .ok (.goto (-41), 3) := by decide +kernel
theorem d_Read_readNumber_48 : decode prog_7_method_9_code 48 = .ok (.aload_n 0, 1) := by decide +kernel
theorem d_Read_readNumber_49 : decode prog_7_method_9_code 49 = .ok (.getfield 20, 3) := by decide +kernel
theorem d_Read_readNumber_52 : decode prog_7_method_9_code 52 = .ok (.iload_n 1, 1) := by decide +kernel
theorem d_Read_readNumber_53 : decode prog_7_method_9_code 53 = .ok (.invokevirtual 59, 3) := by decide +kernel
theorem d_Read_readNumber_56 : decode prog_7_method_9_code 56 = .ok (.return_, 1) := by decide +kernel
theorem d_Read_sign_0 : decode prog_7_method_10_code 0 = .ok (.aload_n 0, 1) := by decide +kernel
theorem d_Read_sign_1 : decode prog_7_method_10_code 1 = .ok (.getfield 14, 3) := by decide +kernel
theorem d_Read_sign_4 : decode prog_7_method_10_code 4 = .ok (.aload_n 0, 1) := by decide +kernel
theorem d_Read_sign_5 : decode prog_7_method_10_code 5 = .ok (.getfield 27, 3) := by decide +kernel
theorem d_Read_sign_8 : decode prog_7_method_10_code 8 = .ok (.invokevirtual 74, 3) := by decide +kernel
theorem d_Read_sign_11 : decode prog_7_method_10_code 11 = .ok (.ifCond .eq 17, 3) := by decide +kernel
theorem d_Read_sign_14 : decode prog_7_method_10_code 14 = .ok (.aload_n 0, 1) := by decide +kernel
theorem d_Read_sign_15 : decode prog_7_method_10_code 15 = .ok (.getfield 14, 3) := by decide +kernel
theorem d_Read_sign_18 : decode prog_7_method_10_code 18 = .ok (.aload_n 0, 1) := by decide +kernel
theorem d_Read_sign_19 : decode prog_7_method_10_code 19 = .ok (.getfield 27, 3) := by decide +kernel
theorem d_Read_sign_22 : decode prog_7_method_10_code 22 = .ok (.invokevirtual 77, 3) := by decide +kernel
theorem d_Read_sign_25 : decode prog_7_method_10_code 25 = .ok (.goto 4, 3) := by decide +kernel
theorem d_Read_sign_28 : decode prog_7_method_10_code 28 = .ok (.iconst (-1), 1) := by decide +kernel
theorem d_Read_sign_29 : decode prog_7_method_10_code 29 = .ok (.ireturn, 1) := by decide +kernel
theorem d_Read_nameOf_0 : decode prog_7_method_11_code 0 = .ok (.iload_n 1, 1) := by decide +kernel
theorem d_Read_nameOf_1 : decode prog_7_method_11_code 1 = .ok (.lookupswitch 105 #[(100, 103), (104, 77), (105, 51), (110, 90), (119, 64)], 51) := by decide +kernel
theorem d_Read_nameOf_52 : decode prog_7_method_11_code 52 = .ok (.aload_n 0, 1) := by decide +kernel
theorem d_Read_nameOf_53 : decode prog_7_method_11_code 53 = .ok (.getfield 23, 3) := by decide +kernel
theorem d_Read_nameOf_56 : decode prog_7_method_11_code 56 = .ok (.ifCond .ne 7, 3) := by decide +kernel
theorem d_Read_nameOf_59 : decode prog_7_method_11_code 59 = .ok (.iconst 1, 1) := by decide +kernel
theorem d_Read_nameOf_60 : decode prog_7_method_11_code 60 = .ok (.goto 4, 3) := by decide +kernel
theorem d_Read_nameOf_63 : decode prog_7_method_11_code 63 = .ok (.iconst 0, 1) := by decide +kernel
theorem d_Read_nameOf_64 : decode prog_7_method_11_code 64 = .ok (.ireturn, 1) := by decide +kernel
theorem d_Read_nameOf_65 : decode prog_7_method_11_code 65 = .ok (.aload_n 0, 1) := by decide +kernel
theorem d_Read_nameOf_66 : decode prog_7_method_11_code 66 = .ok (.getfield 23, 3) := by decide +kernel
theorem d_Read_nameOf_69 : decode prog_7_method_11_code 69 = .ok (.ifCond .ne 7, 3) := by decide +kernel
theorem d_Read_nameOf_72 : decode prog_7_method_11_code 72 = .ok (.iconst 3, 1) := by decide +kernel
theorem d_Read_nameOf_73 : decode prog_7_method_11_code 73 = .ok (.goto 4, 3) := by decide +kernel
theorem d_Read_nameOf_76 : decode prog_7_method_11_code 76 = .ok (.iconst 0, 1) := by decide +kernel
theorem d_Read_nameOf_77 : decode prog_7_method_11_code 77 = .ok (.ireturn, 1) := by decide +kernel
theorem d_Read_nameOf_78 : decode prog_7_method_11_code 78 = .ok (.aload_n 0, 1) := by decide +kernel
theorem d_Read_nameOf_79 : decode prog_7_method_11_code 79 = .ok (.getfield 23, 3) := by decide +kernel
theorem d_Read_nameOf_82 : decode prog_7_method_11_code 82 = .ok (.ifCond .ne 7, 3) := by decide +kernel
theorem d_Read_nameOf_85 : decode prog_7_method_11_code 85 = .ok (.iconst 0, 1) := by decide +kernel
theorem d_Read_nameOf_86 : decode prog_7_method_11_code 86 = .ok (.goto 4, 3) := by decide +kernel
theorem d_Read_nameOf_89 : decode prog_7_method_11_code 89 = .ok (.iconst 1, 1) := by decide +kernel
theorem d_Read_nameOf_90 : decode prog_7_method_11_code 90 = .ok (.ireturn, 1) := by decide +kernel
theorem d_Read_nameOf_91 : decode prog_7_method_11_code 91 = .ok (.aload_n 0, 1) := by decide +kernel
theorem d_Read_nameOf_92 : decode prog_7_method_11_code 92 = .ok (.getfield 23, 3) := by decide +kernel
theorem d_Read_nameOf_95 : decode prog_7_method_11_code 95 = .ok (.ifCond .ne 7, 3) := by decide +kernel
theorem d_Read_nameOf_98 : decode prog_7_method_11_code 98 = .ok (.iconst 0, 1) := by decide +kernel
theorem d_Read_nameOf_99 : decode prog_7_method_11_code 99 = .ok (.goto 4, 3) := by decide +kernel
theorem d_Read_nameOf_102 : decode prog_7_method_11_code 102 = .ok (.iconst 3, 1) := by decide +kernel
theorem d_Read_nameOf_103 : decode prog_7_method_11_code 103 = .ok (.ireturn, 1) := by decide +kernel
theorem d_Read_nameOf_104 : decode prog_7_method_11_code 104 = .ok (.iconst 2, 1) := by decide +kernel
theorem d_Read_nameOf_105 : decode prog_7_method_11_code 105 = .ok (.ireturn, 1) := by decide +kernel
theorem d_Read_nameOf_106 : decode prog_7_method_11_code 106 = .ok (.iconst 0, 1) := by decide +kernel
theorem d_Read_nameOf_107 : decode prog_7_method_11_code 107 = .ok (.ireturn, 1) := by decide +kernel
theorem d_Read_isDigit_0 : decode prog_7_method_12_code 0 = .ok (.iload_n 0, 1) := by decide +kernel
theorem d_Read_isDigit_1 : decode prog_7_method_12_code 1 = .ok (.bipush 48, 2) := by decide +kernel
theorem d_Read_isDigit_3 : decode prog_7_method_12_code 3 = .ok (.if_icmp .lt 13, 3) := by decide +kernel
theorem d_Read_isDigit_6 : decode prog_7_method_12_code 6 = .ok (.iload_n 0, 1) := by decide +kernel
theorem d_Read_isDigit_7 : decode prog_7_method_12_code 7 = .ok (.bipush 57, 2) := by decide +kernel
theorem d_Read_isDigit_9 : decode prog_7_method_12_code 9 = .ok (.if_icmp .gt 7, 3) := by decide +kernel
theorem d_Read_isDigit_12 : decode prog_7_method_12_code 12 = .ok (.iconst 1, 1) := by decide +kernel
theorem d_Read_isDigit_13 : decode prog_7_method_12_code 13 = .ok (.goto 4, 3) := by decide +kernel
theorem d_Read_isDigit_16 : decode prog_7_method_12_code 16 = .ok (.iconst 0, 1) := by decide +kernel
theorem d_Read_isDigit_17 : decode prog_7_method_12_code 17 = .ok (.ireturn, 1) := by decide +kernel
theorem d_Read_levelOf_0 : decode prog_7_method_13_code 0 = .ok (.iload_n 0, 1) := by decide +kernel
theorem d_Read_levelOf_1 : decode prog_7_method_13_code 1 = .ok (.lookupswitch 101 #[(37, 99), (38, 93), (42, 99), (43, 97), (45, 97), (47, 99), (60, 95), (61, 95), (62, 95), (124, 91)], 91) := by decide +kernel
theorem d_Read_levelOf_92 : decode prog_7_method_13_code 92 = .ok (.iconst 0, 1) := by decide +kernel
theorem d_Read_levelOf_93 : decode prog_7_method_13_code 93 = .ok (.ireturn, 1) := by decide +kernel
theorem d_Read_levelOf_94 : decode prog_7_method_13_code 94 = .ok (.iconst 1, 1) := by decide +kernel
theorem d_Read_levelOf_95 : decode prog_7_method_13_code 95 = .ok (.ireturn, 1) := by decide +kernel
theorem d_Read_levelOf_96 : decode prog_7_method_13_code 96 = .ok (.iconst 2, 1) := by decide +kernel
theorem d_Read_levelOf_97 : decode prog_7_method_13_code 97 = .ok (.ireturn, 1) := by decide +kernel
theorem d_Read_levelOf_98 : decode prog_7_method_13_code 98 = .ok (.iconst 3, 1) := by decide +kernel
theorem d_Read_levelOf_99 : decode prog_7_method_13_code 99 = .ok (.ireturn, 1) := by decide +kernel
theorem d_Read_levelOf_100 : decode prog_7_method_13_code 100 = .ok (.iconst 4, 1) := by decide +kernel
theorem d_Read_levelOf_101 : decode prog_7_method_13_code 101 = .ok (.ireturn, 1) := by decide +kernel
theorem d_Read_levelOf_102 : decode prog_7_method_13_code 102 = .ok (.iconst (-1), 1) := by decide +kernel
theorem d_Read_levelOf_103 : decode prog_7_method_13_code 103 = .ok (.ireturn, 1) := by decide +kernel
theorem d_Voi_init_0 : decode prog_10_method_1_code 0 = .ok (.aload_n 0, 1) := by decide +kernel
theorem d_Voi_init_1 : decode prog_10_method_1_code 1 = .ok (.invokespecial 1, 3) := by decide +kernel
theorem d_Voi_init_4 : decode prog_10_method_1_code 4 = .ok (.aload_n 0, 1) := by decide +kernel
theorem d_Voi_init_5 : decode prog_10_method_1_code 5 = .ok (.new 7, 3) := by decide +kernel
theorem d_Voi_init_8 : decode prog_10_method_1_code 8 = .ok (.dup, 1) := by decide +kernel
theorem d_Voi_init_9 : decode prog_10_method_1_code 9 = .ok (.bipush 30, 2) := by decide +kernel
theorem d_Voi_init_11 : decode prog_10_method_1_code 11 = .ok (.invokespecial 11, 3) := by decide +kernel
theorem d_Voi_init_14 : decode prog_10_method_1_code 14 = .ok (.putfield 14, 3) := by decide +kernel
theorem d_Voi_init_17 : decode prog_10_method_1_code 17 = .ok (.aload_n 0, 1) := by decide +kernel
theorem d_Voi_init_18 : decode prog_10_method_1_code 18 = .ok (.iconst 0, 1) := by decide +kernel
theorem d_Voi_init_19 : decode prog_10_method_1_code 19 = .ok (.putfield 18, 3) := by decide +kernel
theorem d_Voi_init_22 : decode prog_10_method_1_code 22 = .ok (.aload_n 0, 1) := by decide +kernel
theorem d_Voi_init_23 : decode prog_10_method_1_code 23 = .ok (.iconst 0, 1) := by decide +kernel
theorem d_Voi_init_24 : decode prog_10_method_1_code 24 = .ok (.putfield 22, 3) := by decide +kernel
theorem d_Voi_init_27 : decode prog_10_method_1_code 27 = .ok (.aload_n 0, 1) := by decide +kernel
theorem d_Voi_init_28 : decode prog_10_method_1_code 28 = .ok (.iconst 0, 1) := by decide +kernel
theorem d_Voi_init_29 : decode prog_10_method_1_code 29 = .ok (.putfield 25, 3) := by decide +kernel
theorem d_Voi_init_32 : decode prog_10_method_1_code 32 = .ok (.aload_n 0, 1) := by decide +kernel
theorem d_Voi_init_33 : decode prog_10_method_1_code 33 = .ok (.iconst 0, 1) := by decide +kernel
theorem d_Voi_init_34 : decode prog_10_method_1_code 34 = .ok (.putfield 28, 3) := by decide +kernel
theorem d_Voi_init_37 : decode prog_10_method_1_code 37 = .ok (.aload_n 0, 1) := by decide +kernel
theorem d_Voi_init_38 : decode prog_10_method_1_code 38 = .ok (.iconst 0, 1) := by decide +kernel
theorem d_Voi_init_39 : decode prog_10_method_1_code 39 = .ok (.putfield 31, 3) := by decide +kernel
theorem d_Voi_init_42 : decode prog_10_method_1_code 42 = .ok (.return_, 1) := by decide +kernel
theorem d_Voi_isVoice_0 : decode prog_10_method_2_code 0 = .ok (.iload_n 0, 1) := by decide +kernel
theorem d_Voi_isVoice_1 : decode prog_10_method_2_code 1 = .ok (.ifCond .lt 12, 3) := by decide +kernel
theorem d_Voi_isVoice_4 : decode prog_10_method_2_code 4 = .ok (.iload_n 0, 1) := by decide +kernel
theorem d_Voi_isVoice_5 : decode prog_10_method_2_code 5 = .ok (.iconst 4, 1) := by decide +kernel
theorem d_Voi_isVoice_6 : decode prog_10_method_2_code 6 = .ok (.if_icmp .ge 7, 3) := by decide +kernel
theorem d_Voi_isVoice_9 : decode prog_10_method_2_code 9 = .ok (.iconst 1, 1) := by decide +kernel
theorem d_Voi_isVoice_10 : decode prog_10_method_2_code 10 = .ok (.goto 4, 3) := by decide +kernel
theorem d_Voi_isVoice_13 : decode prog_10_method_2_code 13 = .ok (.iconst 0, 1) := by decide +kernel
theorem d_Voi_isVoice_14 : decode prog_10_method_2_code 14 = .ok (.ireturn, 1) := by decide +kernel
theorem d_Voi_speaks_0 : decode prog_10_method_3_code 0 = .ok (.aload_n 0, 1) := by decide +kernel
theorem d_Voi_speaks_1 : decode prog_10_method_3_code 1 = .ok (.iload_n 1, 1) := by decide +kernel
theorem d_Voi_speaks_2 : decode prog_10_method_3_code 2 = .ok (.putfield 18, 3) := by decide +kernel
theorem d_Voi_speaks_5 : decode prog_10_method_3_code 5 = .ok (.aload_n 0, 1) := by decide +kernel
theorem d_Voi_speaks_6 : decode prog_10_method_3_code 6 = .ok (.iload_n 2, 1) := by decide +kernel
theorem d_Voi_speaks_7 : decode prog_10_method_3_code 7 = .ok (.putfield 22, 3) := by decide +kernel
theorem d_Voi_speaks_10 : decode prog_10_method_3_code 10 = .ok (.aload_n 0, 1) := by decide +kernel
theorem d_Voi_speaks_11 : decode prog_10_method_3_code 11 = .ok (.iload_n 3, 1) := by decide +kernel
theorem d_Voi_speaks_12 : decode prog_10_method_3_code 12 = .ok (.putfield 25, 3) := by decide +kernel
theorem d_Voi_speaks_15 : decode prog_10_method_3_code 15 = .ok (.aload_n 0, 1) := by decide +kernel
theorem d_Voi_speaks_16 : decode prog_10_method_3_code 16 = .ok (.iconst 0, 1) := by decide +kernel
theorem d_Voi_speaks_17 : decode prog_10_method_3_code 17 = .ok (.putfield 31, 3) := by decide +kernel
theorem d_Voi_speaks_20 : decode prog_10_method_3_code 20 = .ok (.aload_n 0, 1) := by decide +kernel
theorem d_Voi_speaks_21 : decode prog_10_method_3_code 21 = .ok (.getfield 14, 3) := by decide +kernel
theorem d_Voi_speaks_24 : decode prog_10_method_3_code 24 = .ok (.invokevirtual 35, 3) := by decide +kernel
theorem d_Voi_speaks_27 : decode prog_10_method_3_code 27 = .ok (.aload_n 0, 1) := by decide +kernel
theorem d_Voi_speaks_28 : decode prog_10_method_3_code 28 = .ok (.aload_n 0, 1) := by decide +kernel
theorem d_Voi_speaks_29 : decode prog_10_method_3_code 29 = .ok (.aload_n 0, 1) := by decide +kernel
theorem d_Voi_speaks_30 : decode prog_10_method_3_code 30 = .ok (.getfield 18, 3) := by decide +kernel
theorem d_Voi_speaks_33 : decode prog_10_method_3_code 33 = .ok (.iload 4, 2) := by decide +kernel
theorem d_Voi_speaks_35 : decode prog_10_method_3_code 35 = .ok (.iload 5, 2) := by decide +kernel
theorem d_Voi_speaks_37 : decode prog_10_method_3_code 37 = .ok (.iconst 0, 1) := by decide +kernel
theorem d_Voi_speaks_38 : decode prog_10_method_3_code 38 = .ok (.invokevirtual 38, 3) := by decide +kernel
theorem d_Voi_speaks_41 : decode prog_10_method_3_code 41 = .ok (.putfield 28, 3) := by decide +kernel
theorem d_Voi_speaks_44 : decode prog_10_method_3_code 44 = .ok (.aload_n 0, 1) := by decide +kernel
theorem d_Voi_speaks_45 : decode prog_10_method_3_code 45 = .ok (.getfield 31, 3) := by decide +kernel
theorem d_Voi_speaks_48 : decode prog_10_method_3_code 48 = .ok (.ifCond .ne 7, 3) := by decide +kernel
theorem d_Voi_speaks_51 : decode prog_10_method_3_code 51 = .ok (.iconst 1, 1) := by decide +kernel
theorem d_Voi_speaks_52 : decode prog_10_method_3_code 52 = .ok (.goto 4, 3) := by decide +kernel
theorem d_Voi_speaks_55 : decode prog_10_method_3_code 55 = .ok (.iconst 0, 1) := by decide +kernel
theorem d_Voi_speaks_56 : decode prog_10_method_3_code 56 = .ok (.ireturn, 1) := by decide +kernel
theorem d_Voi_answer_0 : decode prog_10_method_4_code 0 = .ok (.aload_n 0, 1) := by decide +kernel
theorem d_Voi_answer_1 : decode prog_10_method_4_code 1 = .ok (.getfield 28, 3) := by decide +kernel
theorem d_Voi_answer_4 : decode prog_10_method_4_code 4 = .ok (.ireturn, 1) := by decide +kernel
theorem d_Voi_trace_0 : decode prog_10_method_5_code 0 = .ok (.aload_n 0, 1) := by decide +kernel
theorem d_Voi_trace_1 : decode prog_10_method_5_code 1 = .ok (.getfield 14, 3) := by decide +kernel
theorem d_Voi_trace_4 : decode prog_10_method_5_code 4 = .ok (.areturn, 1) := by decide +kernel
theorem d_Voi_says_0 : decode prog_10_method_6_code 0 = .ok (.iload_n 1, 1) := by decide +kernel
theorem d_Voi_says_1 : decode prog_10_method_6_code 1 = .ok (.iload_n 2, 1) := by decide +kernel
theorem d_Voi_says_2 : decode prog_10_method_6_code 2 = .ok (.invokestatic 42, 3) := by decide +kernel
theorem d_Voi_says_5 : decode prog_10_method_6_code 5 = .ok (.istore 5, 2) := by decide +kernel
theorem d_Voi_says_7 : decode prog_10_method_6_code 7 = .ok (.aload_n 0, 1) := by decide +kernel
theorem d_Voi_says_8 : decode prog_10_method_6_code 8 = .ok (.getfield 31, 3) := by decide +kernel
theorem d_Voi_says_11 : decode prog_10_method_6_code 11 = .ok (.ifCond .ne 15, 3) := by decide +kernel
theorem d_Voi_says_14 : decode prog_10_method_6_code 14 = .ok (.iload 5, 2) := by decide +kernel
theorem d_Voi_says_16 : decode prog_10_method_6_code 16 = .ok (.ifCond .eq 10, 3) := by decide +kernel
theorem d_Voi_says_19 : decode prog_10_method_6_code 19 = .ok (.iload 4, 2) := by decide +kernel
theorem d_Voi_says_21 : decode prog_10_method_6_code 21 = .ok (.bipush 30, 2) := by decide +kernel
theorem d_Voi_says_23 : decode prog_10_method_6_code 23 = .ok (.if_icmp .lt 5, 3) := by decide +kernel
theorem d_Voi_says_26 : decode prog_10_method_6_code 26 = .ok (.iconst 0, 1) := by decide +kernel
theorem d_Voi_says_27 : decode prog_10_method_6_code 27 = .ok (.ireturn, 1) := by decide +kernel
theorem d_Voi_says_28 : decode prog_10_method_6_code 28 = .ok (.aload_n 0, 1) := by decide +kernel
theorem d_Voi_says_29 : decode prog_10_method_6_code 29 = .ok (.getfield 14, 3) := by decide +kernel
theorem d_Voi_says_32 : decode prog_10_method_6_code 32 = .ok (.iload 5, 2) := by decide +kernel
theorem d_Voi_says_34 : decode prog_10_method_6_code 34 = .ok (.invokevirtual 46, 3) := by decide +kernel
theorem d_Voi_says_37 : decode prog_10_method_6_code 37 = .ok (.aload_n 0, 1) := by decide +kernel
theorem d_Voi_says_38 : decode prog_10_method_6_code 38 = .ok (.iload 5, 2) := by decide +kernel
theorem d_Voi_says_40 : decode prog_10_method_6_code 40 = .ok (.iload_n 3, 1) := by decide +kernel
theorem d_Voi_says_41 : decode prog_10_method_6_code 41 = .ok (.iload 4, 2) := by decide +kernel
theorem d_Voi_says_43 : decode prog_10_method_6_code 43 = .ok (.iconst 1, 1) := by decide +kernel
theorem d_Voi_says_44 : decode prog_10_method_6_code 44 = .ok (.iadd, 1) := by decide +kernel
theorem d_Voi_says_45 : decode prog_10_method_6_code 45 = .ok (.invokevirtual 49, 3) := by decide +kernel
theorem d_Voi_says_48 : decode prog_10_method_6_code 48 = .ok (.ireturn, 1) := by decide +kernel
theorem d_Voi_bodyFrom_0 : decode prog_10_method_7_code 0 = .ok (.iload_n 0, 1) := by decide +kernel
theorem d_Voi_bodyFrom_1 : decode prog_10_method_7_code 1 = .ok (.istore_n 2, 1) := by decide +kernel
theorem d_Voi_bodyFrom_2 : decode prog_10_method_7_code 2 = .ok (.iconst 0, 1) := by decide +kernel
theorem d_Voi_bodyFrom_3 : decode prog_10_method_7_code 3 = .ok (.istore_n 3, 1) := by decide +kernel
theorem d_Voi_bodyFrom_4 : decode prog_10_method_7_code 4 = .ok (.iload_n 3, 1) := by decide +kernel
theorem d_Voi_bodyFrom_5 : decode prog_10_method_7_code 5 = .ok (.getstatic 53, 3) := by decide +kernel
theorem d_Voi_bodyFrom_8 : decode prog_10_method_7_code 8 = .ok (.arraylength, 1) := by decide +kernel
theorem d_Voi_bodyFrom_9 : decode prog_10_method_7_code 9 = .ok (.if_icmp .ge 36, 3) := by decide +kernel
theorem d_Voi_bodyFrom_12 : decode prog_10_method_7_code 12 = .ok (.iload_n 2, 1) := by decide +kernel
theorem d_Voi_bodyFrom_13 : decode prog_10_method_7_code 13 = .ok (.ifCond .lt 32, 3) := by decide +kernel
theorem d_Voi_bodyFrom_16 : decode prog_10_method_7_code 16 = .ok (.iload_n 2, 1) := by decide +kernel
theorem d_Voi_bodyFrom_17 : decode prog_10_method_7_code 17 = .ok (.iconst 4, 1) := by decide +kernel
theorem d_Voi_bodyFrom_18 : decode prog_10_method_7_code 18 = .ok (.imul, 1) := by decide +kernel
theorem d_Voi_bodyFrom_19 : decode prog_10_method_7_code 19 = .ok (.iload_n 1, 1) := by decide +kernel
theorem d_Voi_bodyFrom_20 : decode prog_10_method_7_code 20 = .ok (.iadd, 1) := by decide +kernel
theorem d_Voi_bodyFrom_21 : decode prog_10_method_7_code 21 = .ok (.invokestatic 57, 3) := by decide +kernel
theorem d_Voi_bodyFrom_24 : decode prog_10_method_7_code 24 = .ok (.istore 4, 2) := by decide +kernel
theorem d_Voi_bodyFrom_26 : decode prog_10_method_7_code 26 = .ok (.iload 4, 2) := by decide +kernel
theorem d_Voi_bodyFrom_28 : decode prog_10_method_7_code 28 = .ok (.ifCond .eq 6, 3) := by decide +kernel
theorem d_Voi_bodyFrom_31 : decode prog_10_method_7_code 31 = .ok (.iload 4, 2) := by decide +kernel
theorem d_Voi_bodyFrom_33 : decode prog_10_method_7_code 33 = .ok (.ireturn, 1) := by decide +kernel
theorem d_Voi_bodyFrom_34 : decode prog_10_method_7_code 34 = .ok (.iload_n 2, 1) := by decide +kernel
theorem d_Voi_bodyFrom_35 : decode prog_10_method_7_code 35 = .ok (.invokestatic 61, 3) := by decide +kernel
theorem d_Voi_bodyFrom_38 : decode prog_10_method_7_code 38 = .ok (.istore_n 2, 1) := by decide +kernel
theorem d_Voi_bodyFrom_39 : decode prog_10_method_7_code 39 = .ok (.iinc 3 1, 3) := by decide +kernel
theorem d_Voi_bodyFrom_42 : decode prog_10_method_7_code 42 = .ok (.goto (-38), 3) := by decide +kernel
theorem d_Voi_bodyFrom_45 : decode prog_10_method_7_code 45 = .ok (.iconst 0, 1) := by decide +kernel
theorem d_Voi_bodyFrom_46 : decode prog_10_method_7_code 46 = .ok (.ireturn, 1) := by decide +kernel
theorem d_Voi_bodyAt_0 : decode prog_10_method_8_code 0 = .ok (.iload_n 0, 1) := by decide +kernel
theorem d_Voi_bodyAt_1 : decode prog_10_method_8_code 1 = .ok (.ifCond .lt 19, 3) := by decide +kernel
theorem d_Voi_bodyAt_4 : decode prog_10_method_8_code 4 = .ok (.iload_n 0, 1) := by decide +kernel
theorem d_Voi_bodyAt_5 : decode prog_10_method_8_code 5 = .ok (.getstatic 53, 3) := by decide +kernel
theorem d_Voi_bodyAt_8 : decode prog_10_method_8_code 8 = .ok (.arraylength, 1) := by decide +kernel
theorem d_Voi_bodyAt_9 : decode prog_10_method_8_code 9 = .ok (.if_icmp .ge 11, 3) := by decide +kernel
theorem d_Voi_bodyAt_12 : decode prog_10_method_8_code 12 = .ok (.getstatic 53, 3) := by decide +kernel
theorem d_Voi_bodyAt_15 : decode prog_10_method_8_code 15 = .ok (.iload_n 0, 1) := by decide +kernel
theorem d_Voi_bodyAt_16 : decode prog_10_method_8_code 16 = .ok (.iaload, 1) := by decide +kernel
theorem d_Voi_bodyAt_17 : decode prog_10_method_8_code 17 = .ok (.goto 4, 3) := by decide +kernel
theorem d_Voi_bodyAt_20 : decode prog_10_method_8_code 20 = .ok (.iconst 0, 1) := by decide +kernel
theorem d_Voi_bodyAt_21 : decode prog_10_method_8_code 21 = .ok (.ireturn, 1) := by decide +kernel
theorem d_Voi_worksOut_0 : decode prog_10_method_9_code 0 = .ok (.iload_n 1, 1) := by decide +kernel
theorem d_Voi_worksOut_1 : decode prog_10_method_9_code 1 = .ok (.lookupswitch 275 #[(10, 115), (11, 122), (12, 136), (13, 153), (20, 168), (21, 179), (30, 200), (40, 211), (50, 222), (51, 233), (60, 247), (70, 258), (71, 261)], 115) := by decide +kernel
theorem d_Voi_worksOut_116 : decode prog_10_method_9_code 116 = .ok (.iload_n 2, 1) := by decide +kernel
theorem d_Voi_worksOut_117 : decode prog_10_method_9_code 117 = .ok (.aload_n 0, 1) := by decide +kernel
theorem d_Voi_worksOut_118 : decode prog_10_method_9_code 118 = .ok (.getfield 22, 3) := by decide +kernel
theorem d_Voi_worksOut_121 : decode prog_10_method_9_code 121 = .ok (.iadd, 1) := by decide +kernel
theorem d_Voi_worksOut_122 : decode prog_10_method_9_code 122 = .ok (.ireturn, 1) := by decide +kernel
theorem d_Voi_worksOut_123 : decode prog_10_method_9_code 123 = .ok (.aload_n 0, 1) := by decide +kernel
theorem d_Voi_worksOut_124 : decode prog_10_method_9_code 124 = .ok (.aload_n 0, 1) := by decide +kernel
theorem d_Voi_worksOut_125 : decode prog_10_method_9_code 125 = .ok (.getfield 18, 3) := by decide +kernel
theorem d_Voi_worksOut_128 : decode prog_10_method_9_code 128 = .ok (.iconst 0, 1) := by decide +kernel
theorem d_Voi_worksOut_129 : decode prog_10_method_9_code 129 = .ok (.iload_n 2, 1) := by decide +kernel
theorem d_Voi_worksOut_130 : decode prog_10_method_9_code 130 = .ok (.iload_n 3, 1) := by decide +kernel
theorem d_Voi_worksOut_131 : decode prog_10_method_9_code 131 = .ok (.invokevirtual 38, 3) := by decide +kernel
theorem d_Voi_worksOut_134 : decode prog_10_method_9_code 134 = .ok (.iconst 2, 1) := by decide +kernel
theorem d_Voi_worksOut_135 : decode prog_10_method_9_code 135 = .ok (.imul, 1) := by decide +kernel
theorem d_Voi_worksOut_136 : decode prog_10_method_9_code 136 = .ok (.ireturn, 1) := by decide +kernel
theorem d_Voi_worksOut_137 : decode prog_10_method_9_code 137 = .ok (.aload_n 0, 1) := by decide +kernel
theorem d_Voi_worksOut_138 : decode prog_10_method_9_code 138 = .ok (.aload_n 0, 1) := by decide +kernel
theorem d_Voi_worksOut_139 : decode prog_10_method_9_code 139 = .ok (.getfield 18, 3) := by decide +kernel
theorem d_Voi_worksOut_142 : decode prog_10_method_9_code 142 = .ok (.iconst 1, 1) := by decide +kernel
theorem d_Voi_worksOut_143 : decode prog_10_method_9_code 143 = .ok (.iload_n 2, 1) := by decide +kernel
theorem d_Voi_worksOut_144 : decode prog_10_method_9_code 144 = .ok (.iload_n 3, 1) := by decide +kernel
theorem d_Voi_worksOut_145 : decode prog_10_method_9_code 145 = .ok (.invokevirtual 38, 3) := by decide +kernel
theorem d_Voi_worksOut_148 : decode prog_10_method_9_code 148 = .ok (.aload_n 0, 1) := by decide +kernel
theorem d_Voi_worksOut_149 : decode prog_10_method_9_code 149 = .ok (.getfield 25, 3) := by decide +kernel
theorem d_Voi_worksOut_152 : decode prog_10_method_9_code 152 = .ok (.isub, 1) := by decide +kernel
theorem d_Voi_worksOut_153 : decode prog_10_method_9_code 153 = .ok (.ireturn, 1) := by decide +kernel
theorem d_Voi_worksOut_154 : decode prog_10_method_9_code 154 = .ok (.aload_n 0, 1) := by decide +kernel
theorem d_Voi_worksOut_155 : decode prog_10_method_9_code 155 = .ok (.iload_n 2, 1) := by decide +kernel
theorem d_Voi_worksOut_156 : decode prog_10_method_9_code 156 = .ok (.aload_n 0, 1) := by decide +kernel
theorem d_Voi_worksOut_157 : decode prog_10_method_9_code 157 = .ok (.getfield 25, 3) := by decide +kernel
theorem d_Voi_worksOut_160 : decode prog_10_method_9_code 160 = .ok (.aload_n 0, 1) := by decide +kernel
theorem d_Voi_worksOut_161 : decode prog_10_method_9_code 161 = .ok (.getfield 22, 3) := by decide +kernel
theorem d_Voi_worksOut_164 : decode prog_10_method_9_code 164 = .ok (.isub, 1) := by decide +kernel
theorem d_Voi_worksOut_165 : decode prog_10_method_9_code 165 = .ok (.invokevirtual 66, 3) := by decide +kernel
theorem d_Voi_worksOut_168 : decode prog_10_method_9_code 168 = .ok (.ireturn, 1) := by decide +kernel
theorem d_Voi_worksOut_169 : decode prog_10_method_9_code 169 = .ok (.aload_n 0, 1) := by decide +kernel
theorem d_Voi_worksOut_170 : decode prog_10_method_9_code 170 = .ok (.iconst 0, 1) := by decide +kernel
theorem d_Voi_worksOut_171 : decode prog_10_method_9_code 171 = .ok (.iconst 0, 1) := by decide +kernel
theorem d_Voi_worksOut_172 : decode prog_10_method_9_code 172 = .ok (.iload_n 2, 1) := by decide +kernel
theorem d_Voi_worksOut_173 : decode prog_10_method_9_code 173 = .ok (.iload_n 3, 1) := by decide +kernel
theorem d_Voi_worksOut_174 : decode prog_10_method_9_code 174 = .ok (.invokevirtual 38, 3) := by decide +kernel
theorem d_Voi_worksOut_177 : decode prog_10_method_9_code 177 = .ok (.iconst 4, 1) := by decide +kernel
theorem d_Voi_worksOut_178 : decode prog_10_method_9_code 178 = .ok (.isub, 1) := by decide +kernel
theorem d_Voi_worksOut_179 : decode prog_10_method_9_code 179 = .ok (.ireturn, 1) := by decide +kernel
theorem d_Voi_worksOut_180 : decode prog_10_method_9_code 180 = .ok (.aload_n 0, 1) := by decide +kernel
theorem d_Voi_worksOut_181 : decode prog_10_method_9_code 181 = .ok (.iconst 0, 1) := by decide +kernel
theorem d_Voi_worksOut_182 : decode prog_10_method_9_code 182 = .ok (.iconst 3, 1) := by decide +kernel
theorem d_Voi_worksOut_183 : decode prog_10_method_9_code 183 = .ok (.iload_n 2, 1) := by decide +kernel
theorem d_Voi_worksOut_184 : decode prog_10_method_9_code 184 = .ok (.iload_n 3, 1) := by decide +kernel
theorem d_Voi_worksOut_185 : decode prog_10_method_9_code 185 = .ok (.invokevirtual 38, 3) := by decide +kernel
theorem d_Voi_worksOut_188 : decode prog_10_method_9_code 188 = .ok (.aload_n 0, 1) := by decide +kernel
theorem d_Voi_worksOut_189 : decode prog_10_method_9_code 189 = .ok (.aload_n 0, 1) := by decide +kernel
theorem d_Voi_worksOut_190 : decode prog_10_method_9_code 190 = .ok (.getfield 18, 3) := by decide +kernel
theorem d_Voi_worksOut_193 : decode prog_10_method_9_code 193 = .ok (.iconst 1, 1) := by decide +kernel
theorem d_Voi_worksOut_194 : decode prog_10_method_9_code 194 = .ok (.iconst 1, 1) := by decide +kernel
theorem d_Voi_worksOut_195 : decode prog_10_method_9_code 195 = .ok (.iload_n 3, 1) := by decide +kernel
theorem d_Voi_worksOut_196 : decode prog_10_method_9_code 196 = .ok (.invokevirtual 38, 3) := by decide +kernel
theorem d_Voi_worksOut_199 : decode prog_10_method_9_code 199 = .ok (.iadd, 1) := by decide +kernel
theorem d_Voi_worksOut_200 : decode prog_10_method_9_code 200 = .ok (.ireturn, 1) := by decide +kernel
theorem d_Voi_worksOut_201 : decode prog_10_method_9_code 201 = .ok (.iconst 0, 1) := by decide +kernel
theorem d_Voi_worksOut_202 : decode prog_10_method_9_code 202 = .ok (.aload_n 0, 1) := by decide +kernel
theorem d_Voi_worksOut_203 : decode prog_10_method_9_code 203 = .ok (.iconst 0, 1) := by decide +kernel
theorem d_Voi_worksOut_204 : decode prog_10_method_9_code 204 = .ok (.iconst 1, 1) := by decide +kernel
theorem d_Voi_worksOut_205 : decode prog_10_method_9_code 205 = .ok (.iload_n 2, 1) := by decide +kernel
theorem d_Voi_worksOut_206 : decode prog_10_method_9_code 206 = .ok (.iload_n 3, 1) := by decide +kernel
theorem d_Voi_worksOut_207 : decode prog_10_method_9_code 207 = .ok (.invokevirtual 38, 3) := by decide +kernel
theorem d_Voi_worksOut_210 : decode prog_10_method_9_code 210 = .ok (.isub, 1) := by decide +kernel
theorem d_Voi_worksOut_211 : decode prog_10_method_9_code 211 = .ok (.ireturn, 1) := by decide +kernel
theorem d_Voi_worksOut_212 : decode prog_10_method_9_code 212 = .ok (.aload_n 0, 1) := by decide +kernel
theorem d_Voi_worksOut_213 : decode prog_10_method_9_code 213 = .ok (.iconst 0, 1) := by decide +kernel
theorem d_Voi_worksOut_214 : decode prog_10_method_9_code 214 = .ok (.iconst 2, 1) := by decide +kernel
theorem d_Voi_worksOut_215 : decode prog_10_method_9_code 215 = .ok (.iload_n 2, 1) := by decide +kernel
theorem d_Voi_worksOut_216 : decode prog_10_method_9_code 216 = .ok (.iconst 2, 1) := by decide +kernel
theorem d_Voi_worksOut_217 : decode prog_10_method_9_code 217 = .ok (.idiv, 1) := by decide +kernel
theorem d_Voi_worksOut_218 : decode prog_10_method_9_code 218 = .ok (.iload_n 3, 1) := by decide +kernel
theorem d_Voi_worksOut_219 : decode prog_10_method_9_code 219 = .ok (.invokevirtual 38, 3) := by decide +kernel
theorem d_Voi_worksOut_222 : decode prog_10_method_9_code 222 = .ok (.ireturn, 1) := by decide +kernel
theorem d_Voi_worksOut_223 : decode prog_10_method_9_code 223 = .ok (.aload_n 0, 1) := by decide +kernel
theorem d_Voi_worksOut_224 : decode prog_10_method_9_code 224 = .ok (.iconst 1, 1) := by decide +kernel
theorem d_Voi_worksOut_225 : decode prog_10_method_9_code 225 = .ok (.iconst 0, 1) := by decide +kernel
theorem d_Voi_worksOut_226 : decode prog_10_method_9_code 226 = .ok (.iload_n 2, 1) := by decide +kernel
theorem d_Voi_worksOut_227 : decode prog_10_method_9_code 227 = .ok (.iload_n 3, 1) := by decide +kernel
theorem d_Voi_worksOut_228 : decode prog_10_method_9_code 228 = .ok (.invokevirtual 38, 3) := by decide +kernel
theorem d_Voi_worksOut_231 : decode prog_10_method_9_code 231 = .ok (.iconst 3, 1) := by decide +kernel
theorem d_Voi_worksOut_232 : decode prog_10_method_9_code 232 = .ok (.imul, 1) := by decide +kernel
theorem d_Voi_worksOut_233 : decode prog_10_method_9_code 233 = .ok (.ireturn, 1) := by decide +kernel
theorem d_Voi_worksOut_234 : decode prog_10_method_9_code 234 = .ok (.aload_n 0, 1) := by decide +kernel
theorem d_Voi_worksOut_235 : decode prog_10_method_9_code 235 = .ok (.iconst 1, 1) := by decide +kernel
theorem d_Voi_worksOut_236 : decode prog_10_method_9_code 236 = .ok (.iconst 2, 1) := by decide +kernel
theorem d_Voi_worksOut_237 : decode prog_10_method_9_code 237 = .ok (.iload_n 2, 1) := by decide +kernel
theorem d_Voi_worksOut_238 : decode prog_10_method_9_code 238 = .ok (.iload_n 3, 1) := by decide +kernel
theorem d_Voi_worksOut_239 : decode prog_10_method_9_code 239 = .ok (.invokevirtual 38, 3) := by decide +kernel
theorem d_Voi_worksOut_242 : decode prog_10_method_9_code 242 = .ok (.aload_n 0, 1) := by decide +kernel
theorem d_Voi_worksOut_243 : decode prog_10_method_9_code 243 = .ok (.getfield 22, 3) := by decide +kernel
theorem d_Voi_worksOut_246 : decode prog_10_method_9_code 246 = .ok (.ixor, 1) := by decide +kernel
theorem d_Voi_worksOut_247 : decode prog_10_method_9_code 247 = .ok (.ireturn, 1) := by decide +kernel
theorem d_Voi_worksOut_248 : decode prog_10_method_9_code 248 = .ok (.aload_n 0, 1) := by decide +kernel
theorem d_Voi_worksOut_249 : decode prog_10_method_9_code 249 = .ok (.iconst 2, 1) := by decide +kernel
theorem d_Voi_worksOut_250 : decode prog_10_method_9_code 250 = .ok (.iconst 1, 1) := by decide +kernel
theorem d_Voi_worksOut_251 : decode prog_10_method_9_code 251 = .ok (.iload_n 2, 1) := by decide +kernel
theorem d_Voi_worksOut_252 : decode prog_10_method_9_code 252 = .ok (.iconst 1, 1) := by decide +kernel
theorem d_Voi_worksOut_253 : decode prog_10_method_9_code 253 = .ok (.iadd, 1) := by decide +kernel
theorem d_Voi_worksOut_254 : decode prog_10_method_9_code 254 = .ok (.iload_n 3, 1) := by decide +kernel
theorem d_Voi_worksOut_255 : decode prog_10_method_9_code 255 = .ok (.invokevirtual 38, 3) := by decide +kernel
theorem d_Voi_worksOut_258 : decode prog_10_method_9_code 258 = .ok (.ireturn, 1) := by decide +kernel
theorem d_Voi_worksOut_259 : decode prog_10_method_9_code 259 = .ok (.bipush 9, 2) := by decide +kernel
theorem d_Voi_worksOut_261 : decode prog_10_method_9_code 261 = .ok (.ireturn, 1) := by decide +kernel
theorem d_Voi_worksOut_262 : decode prog_10_method_9_code 262 = .ok (.aload_n 0, 1) := by decide +kernel
theorem d_Voi_worksOut_263 : decode prog_10_method_9_code 263 = .ok (.iconst 0, 1) := by decide +kernel
theorem d_Voi_worksOut_264 : decode prog_10_method_9_code 264 = .ok (.iconst 1, 1) := by decide +kernel
theorem d_Voi_worksOut_265 : decode prog_10_method_9_code 265 = .ok (.iload_n 2, 1) := by decide +kernel
theorem d_Voi_worksOut_266 : decode prog_10_method_9_code 266 = .ok (.iload_n 3, 1) := by decide +kernel
theorem d_Voi_worksOut_267 : decode prog_10_method_9_code 267 = .ok (.invokevirtual 38, 3) := by decide +kernel
theorem d_Voi_worksOut_270 : decode prog_10_method_9_code 270 = .ok (.aload_n 0, 1) := by decide +kernel
theorem d_Voi_worksOut_271 : decode prog_10_method_9_code 271 = .ok (.getfield 25, 3) := by decide +kernel
theorem d_Voi_worksOut_274 : decode prog_10_method_9_code 274 = .ok (.iadd, 1) := by decide +kernel
theorem d_Voi_worksOut_275 : decode prog_10_method_9_code 275 = .ok (.ireturn, 1) := by decide +kernel
theorem d_Voi_worksOut_276 : decode prog_10_method_9_code 276 = .ok (.iconst 0, 1) := by decide +kernel
theorem d_Voi_worksOut_277 : decode prog_10_method_9_code 277 = .ok (.ireturn, 1) := by decide +kernel
theorem d_Voi_partsBy_0 : decode prog_10_method_10_code 0 = .ok (.iload_n 2, 1) := by decide +kernel
theorem d_Voi_partsBy_1 : decode prog_10_method_10_code 1 = .ok (.ifCond .ne 10, 3) := by decide +kernel
theorem d_Voi_partsBy_4 : decode prog_10_method_10_code 4 = .ok (.aload_n 0, 1) := by decide +kernel
theorem d_Voi_partsBy_5 : decode prog_10_method_10_code 5 = .ok (.iconst 1, 1) := by decide +kernel
theorem d_Voi_partsBy_6 : decode prog_10_method_10_code 6 = .ok (.putfield 31, 3) := by decide +kernel
theorem d_Voi_partsBy_9 : decode prog_10_method_10_code 9 = .ok (.iconst 0, 1) := by decide +kernel
theorem d_Voi_partsBy_10 : decode prog_10_method_10_code 10 = .ok (.ireturn, 1) := by decide +kernel
theorem d_Voi_partsBy_11 : decode prog_10_method_10_code 11 = .ok (.iload_n 1, 1) := by decide +kernel
theorem d_Voi_partsBy_12 : decode prog_10_method_10_code 12 = .ok (.iload_n 2, 1) := by decide +kernel
theorem d_Voi_partsBy_13 : decode prog_10_method_10_code 13 = .ok (.idiv, 1) := by decide +kernel
theorem d_Voi_partsBy_14 : decode prog_10_method_10_code 14 = .ok (.ireturn, 1) := by decide +kernel
theorem d_Push_init_0 : decode prog_6_method_1_code 0 = .ok (.aload_n 0, 1) := by decide +kernel
theorem d_Push_init_1 : decode prog_6_method_1_code 1 = .ok (.invokespecial 3, 3) := by decide +kernel
theorem d_Push_init_4 : decode prog_6_method_1_code 4 = .ok (.aload_n 0, 1) := by decide +kernel
theorem d_Push_init_5 : decode prog_6_method_1_code 5 = .ok (.bipush 6, 2) := by decide +kernel
theorem d_Push_init_7 : decode prog_6_method_1_code 7 = .ok (.newarray .int, 2) := by decide +kernel
theorem d_Push_init_9 : decode prog_6_method_1_code 9 = .ok (.putfield 9, 3) := by decide +kernel
theorem d_Push_init_12 : decode prog_6_method_1_code 12 = .ok (.aload_n 0, 1) := by decide +kernel
theorem d_Push_init_13 : decode prog_6_method_1_code 13 = .ok (.bipush 6, 2) := by decide +kernel
theorem d_Push_init_15 : decode prog_6_method_1_code 15 = .ok (.newarray .int, 2) := by decide +kernel
theorem d_Push_init_17 : decode prog_6_method_1_code 17 = .ok (.putfield 13, 3) := by decide +kernel
theorem d_Push_init_20 : decode prog_6_method_1_code 20 = .ok (.aload_n 0, 1) := by decide +kernel
theorem d_Push_init_21 : decode prog_6_method_1_code 21 = .ok (.iconst 0, 1) := by decide +kernel
theorem d_Push_init_22 : decode prog_6_method_1_code 22 = .ok (.putfield 16, 3) := by decide +kernel
theorem d_Push_init_25 : decode prog_6_method_1_code 25 = .ok (.return_, 1) := by decide +kernel
theorem d_Push_size_0 : decode prog_6_method_2_code 0 = .ok (.aload_n 0, 1) := by decide +kernel
theorem d_Push_size_1 : decode prog_6_method_2_code 1 = .ok (.getfield 16, 3) := by decide +kernel
theorem d_Push_size_4 : decode prog_6_method_2_code 4 = .ok (.ireturn, 1) := by decide +kernel
theorem d_Push_has_0 : decode prog_6_method_3_code 0 = .ok (.iload_n 1, 1) := by decide +kernel
theorem d_Push_has_1 : decode prog_6_method_3_code 1 = .ok (.ifCond .lt 33, 3) := by decide +kernel
theorem d_Push_has_4 : decode prog_6_method_3_code 4 = .ok (.iload_n 1, 1) := by decide +kernel
theorem d_Push_has_5 : decode prog_6_method_3_code 5 = .ok (.aload_n 0, 1) := by decide +kernel
theorem d_Push_has_6 : decode prog_6_method_3_code 6 = .ok (.getfield 16, 3) := by decide +kernel
theorem d_Push_has_9 : decode prog_6_method_3_code 9 = .ok (.if_icmp .ge 25, 3) := by decide +kernel
theorem d_Push_has_12 : decode prog_6_method_3_code 12 = .ok (.iload_n 1, 1) := by decide +kernel
theorem d_Push_has_13 : decode prog_6_method_3_code 13 = .ok (.aload_n 0, 1) := by decide +kernel
theorem d_Push_has_14 : decode prog_6_method_3_code 14 = .ok (.getfield 9, 3) := by decide +kernel
theorem d_Push_has_17 : decode prog_6_method_3_code 17 = .ok (.arraylength, 1) := by decide +kernel
theorem d_Push_has_18 : decode prog_6_method_3_code 18 = .ok (.if_icmp .ge 16, 3) := by decide +kernel
theorem d_Push_has_21 : decode prog_6_method_3_code 21 = .ok (.iload_n 1, 1) := by decide +kernel
theorem d_Push_has_22 : decode prog_6_method_3_code 22 = .ok (.aload_n 0, 1) := by decide +kernel
theorem d_Push_has_23 : decode prog_6_method_3_code 23 = .ok (.getfield 13, 3) := by decide +kernel
theorem d_Push_has_26 : decode prog_6_method_3_code 26 = .ok (.arraylength, 1) := by decide +kernel
theorem d_Push_has_27 : decode prog_6_method_3_code 27 = .ok (.if_icmp .ge 7, 3) := by decide +kernel
theorem d_Push_has_30 : decode prog_6_method_3_code 30 = .ok (.iconst 1, 1) := by decide +kernel
theorem d_Push_has_31 : decode prog_6_method_3_code 31 = .ok (.goto 4, 3) := by decide +kernel
theorem d_Push_has_34 : decode prog_6_method_3_code 34 = .ok (.iconst 0, 1) := by decide +kernel
theorem d_Push_has_35 : decode prog_6_method_3_code 35 = .ok (.ireturn, 1) := by decide +kernel
theorem d_Push_hasRoom_0 : decode prog_6_method_4_code 0 = .ok (.aload_n 0, 1) := by decide +kernel
theorem d_Push_hasRoom_1 : decode prog_6_method_4_code 1 = .ok (.getfield 16, 3) := by decide +kernel
theorem d_Push_hasRoom_4 : decode prog_6_method_4_code 4 = .ok (.bipush 6, 2) := by decide +kernel
theorem d_Push_hasRoom_6 : decode prog_6_method_4_code 6 = .ok (.if_icmp .ge 7, 3) := by decide +kernel
theorem d_Push_hasRoom_9 : decode prog_6_method_4_code 9 = .ok (.iconst 1, 1) := by decide +kernel
theorem d_Push_hasRoom_10 : decode prog_6_method_4_code 10 = .ok (.goto 4, 3) := by decide +kernel
theorem d_Push_hasRoom_13 : decode prog_6_method_4_code 13 = .ok (.iconst 0, 1) := by decide +kernel
theorem d_Push_hasRoom_14 : decode prog_6_method_4_code 14 = .ok (.ireturn, 1) := by decide +kernel
theorem d_Push_comes_0 : decode prog_6_method_5_code 0 = .ok (.aload_n 0, 1) := by decide +kernel
theorem d_Push_comes_1 : decode prog_6_method_5_code 1 = .ok (.invokevirtual 20, 3) := by decide +kernel
theorem d_Push_comes_4 : decode prog_6_method_5_code 4 = .ok (.ifCond .eq 25, 3) := by decide +kernel
theorem d_Push_comes_7 : decode prog_6_method_5_code 7 = .ok (.aload_n 0, 1) := by decide +kernel
theorem d_Push_comes_8 : decode prog_6_method_5_code 8 = .ok (.dup, 1) := by decide +kernel
theorem d_Push_comes_9 : decode prog_6_method_5_code 9 = .ok (.getfield 16, 3) := by decide +kernel
theorem d_Push_comes_12 : decode prog_6_method_5_code 12 = .ok (.iconst 1, 1) := by decide +kernel
theorem d_Push_comes_13 : decode prog_6_method_5_code 13 = .ok (.iadd, 1) := by decide +kernel
theorem d_Push_comes_14 : decode prog_6_method_5_code 14 = .ok (.putfield 16, 3) := by decide +kernel
theorem d_Push_comes_17 : decode prog_6_method_5_code 17 = .ok (.aload_n 0, 1) := by decide +kernel
theorem d_Push_comes_18 : decode prog_6_method_5_code 18 = .ok (.aload_n 0, 1) := by decide +kernel
theorem d_Push_comes_19 : decode prog_6_method_5_code 19 = .ok (.getfield 16, 3) := by decide +kernel
theorem d_Push_comes_22 : decode prog_6_method_5_code 22 = .ok (.iconst 1, 1) := by decide +kernel
theorem d_Push_comes_23 : decode prog_6_method_5_code 23 = .ok (.isub, 1) := by decide +kernel
theorem d_Push_comes_24 : decode prog_6_method_5_code 24 = .ok (.iload_n 1, 1) := by decide +kernel
theorem d_Push_comes_25 : decode prog_6_method_5_code 25 = .ok (.iload_n 2, 1) := by decide +kernel
theorem d_Push_comes_26 : decode prog_6_method_5_code 26 = .ok (.invokevirtual 24, 3) := by decide +kernel
theorem d_Push_comes_29 : decode prog_6_method_5_code 29 = .ok (.aload_n 0, 1) := by decide +kernel
theorem d_Push_comes_30 : decode prog_6_method_5_code 30 = .ok (.getfield 16, 3) := by decide +kernel
theorem d_Push_comes_33 : decode prog_6_method_5_code 33 = .ok (.iconst 1, 1) := by decide +kernel
theorem d_Push_comes_34 : decode prog_6_method_5_code 34 = .ok (.isub, 1) := by decide +kernel
theorem d_Push_comes_35 : decode prog_6_method_5_code 35 = .ok (.ireturn, 1) := by decide +kernel
theorem d_Push_turn_0 : decode prog_6_method_6_code 0 = .ok (.aload_n 0, 1) := by decide +kernel
theorem d_Push_turn_1 : decode prog_6_method_6_code 1 = .ok (.iload_n 1, 1) := by decide +kernel
theorem d_Push_turn_2 : decode prog_6_method_6_code 2 = .ok (.invokevirtual 28, 3) := by decide +kernel
theorem d_Push_turn_5 : decode prog_6_method_6_code 5 = .ok (.ifCond .eq 17, 3) := by decide +kernel
theorem d_Push_turn_8 : decode prog_6_method_6_code 8 = .ok (.aload_n 0, 1) := by decide +kernel
theorem d_Push_turn_9 : decode prog_6_method_6_code 9 = .ok (.getfield 9, 3) := by decide +kernel
theorem d_Push_turn_12 : decode prog_6_method_6_code 12 = .ok (.iload_n 1, 1) := by decide +kernel
theorem d_Push_turn_13 : decode prog_6_method_6_code 13 = .ok (.iload_n 2, 1) := by decide +kernel
theorem d_Push_turn_14 : decode prog_6_method_6_code 14 = .ok (.iastore, 1) := by decide +kernel
theorem d_Push_turn_15 : decode prog_6_method_6_code 15 = .ok (.aload_n 0, 1) := by decide +kernel
theorem d_Push_turn_16 : decode prog_6_method_6_code 16 = .ok (.getfield 13, 3) := by decide +kernel
theorem d_Push_turn_19 : decode prog_6_method_6_code 19 = .ok (.iload_n 1, 1) := by decide +kernel
theorem d_Push_turn_20 : decode prog_6_method_6_code 20 = .ok (.iload_n 3, 1) := by decide +kernel
theorem d_Push_turn_21 : decode prog_6_method_6_code 21 = .ok (.iastore, 1) := by decide +kernel
theorem d_Push_turn_22 : decode prog_6_method_6_code 22 = .ok (.return_, 1) := by decide +kernel
theorem d_Push_dropLast_0 : decode prog_6_method_7_code 0 = .ok (.aload_n 0, 1) := by decide +kernel
theorem d_Push_dropLast_1 : decode prog_6_method_7_code 1 = .ok (.aload_n 0, 1) := by decide +kernel
theorem d_Push_dropLast_2 : decode prog_6_method_7_code 2 = .ok (.getfield 16, 3) := by decide +kernel
theorem d_Push_dropLast_5 : decode prog_6_method_7_code 5 = .ok (.iconst 1, 1) := by decide +kernel
theorem d_Push_dropLast_6 : decode prog_6_method_7_code 6 = .ok (.isub, 1) := by decide +kernel
theorem d_Push_dropLast_7 : decode prog_6_method_7_code 7 = .ok (.iconst 0, 1) := by decide +kernel
theorem d_Push_dropLast_8 : decode prog_6_method_7_code 8 = .ok (.invokestatic 32, 3) := by decide +kernel
theorem d_Push_dropLast_11 : decode prog_6_method_7_code 11 = .ok (.putfield 16, 3) := by decide +kernel
theorem d_Push_dropLast_14 : decode prog_6_method_7_code 14 = .ok (.return_, 1) := by decide +kernel
theorem d_Push_kindOf_0 : decode prog_6_method_8_code 0 = .ok (.aload_n 0, 1) := by decide +kernel
theorem d_Push_kindOf_1 : decode prog_6_method_8_code 1 = .ok (.iload_n 1, 1) := by decide +kernel
theorem d_Push_kindOf_2 : decode prog_6_method_8_code 2 = .ok (.invokevirtual 28, 3) := by decide +kernel
theorem d_Push_kindOf_5 : decode prog_6_method_8_code 5 = .ok (.ifCond .eq 12, 3) := by decide +kernel
theorem d_Push_kindOf_8 : decode prog_6_method_8_code 8 = .ok (.aload_n 0, 1) := by decide +kernel
theorem d_Push_kindOf_9 : decode prog_6_method_8_code 9 = .ok (.getfield 9, 3) := by decide +kernel
theorem d_Push_kindOf_12 : decode prog_6_method_8_code 12 = .ok (.iload_n 1, 1) := by decide +kernel
theorem d_Push_kindOf_13 : decode prog_6_method_8_code 13 = .ok (.iaload, 1) := by decide +kernel
theorem d_Push_kindOf_14 : decode prog_6_method_8_code 14 = .ok (.goto 4, 3) := by decide +kernel
theorem d_Push_kindOf_17 : decode prog_6_method_8_code 17 = .ok (.iconst 0, 1) := by decide +kernel
theorem d_Push_kindOf_18 : decode prog_6_method_8_code 18 = .ok (.ireturn, 1) := by decide +kernel
theorem d_Push_levelOf_0 : decode prog_6_method_9_code 0 = .ok (.aload_n 0, 1) := by decide +kernel
theorem d_Push_levelOf_1 : decode prog_6_method_9_code 1 = .ok (.iload_n 1, 1) := by decide +kernel
theorem d_Push_levelOf_2 : decode prog_6_method_9_code 2 = .ok (.invokevirtual 28, 3) := by decide +kernel
theorem d_Push_levelOf_5 : decode prog_6_method_9_code 5 = .ok (.ifCond .eq 12, 3) := by decide +kernel
theorem d_Push_levelOf_8 : decode prog_6_method_9_code 8 = .ok (.aload_n 0, 1) := by decide +kernel
theorem d_Push_levelOf_9 : decode prog_6_method_9_code 9 = .ok (.getfield 13, 3) := by decide +kernel
theorem d_Push_levelOf_12 : decode prog_6_method_9_code 12 = .ok (.iload_n 1, 1) := by decide +kernel
theorem d_Push_levelOf_13 : decode prog_6_method_9_code 13 = .ok (.iaload, 1) := by decide +kernel
theorem d_Push_levelOf_14 : decode prog_6_method_9_code 14 = .ok (.goto 4, 3) := by decide +kernel
theorem d_Push_levelOf_17 : decode prog_6_method_9_code 17 = .ok (.iconst 0, 1) := by decide +kernel
theorem d_Push_levelOf_18 : decode prog_6_method_9_code 18 = .ok (.ireturn, 1) := by decide +kernel
theorem d_Push_weightOf_0 : decode prog_6_method_10_code 0 = .ok (.aload_n 0, 1) := by decide +kernel
theorem d_Push_weightOf_1 : decode prog_6_method_10_code 1 = .ok (.iload_n 1, 1) := by decide +kernel
theorem d_Push_weightOf_2 : decode prog_6_method_10_code 2 = .ok (.invokevirtual 28, 3) := by decide +kernel
theorem d_Push_weightOf_5 : decode prog_6_method_10_code 5 = .ok (.ifCond .eq 23, 3) := by decide +kernel
theorem d_Push_weightOf_8 : decode prog_6_method_10_code 8 = .ok (.aload_n 0, 1) := by decide +kernel
theorem d_Push_weightOf_9 : decode prog_6_method_10_code 9 = .ok (.getfield 9, 3) := by decide +kernel
theorem d_Push_weightOf_12 : decode prog_6_method_10_code 12 = .ok (.iload_n 1, 1) := by decide +kernel
theorem d_Push_weightOf_13 : decode prog_6_method_10_code 13 = .ok (.iaload, 1) := by decide +kernel
theorem d_Push_weightOf_14 : decode prog_6_method_10_code 14 = .ok (.bipush 6, 2) := by decide +kernel
theorem d_Push_weightOf_16 : decode prog_6_method_10_code 16 = .ok (.if_icmp .ne 12, 3) := by decide +kernel
theorem d_Push_weightOf_19 : decode prog_6_method_10_code 19 = .ok (.aload_n 0, 1) := by decide +kernel
theorem d_Push_weightOf_20 : decode prog_6_method_10_code 20 = .ok (.getfield 13, 3) := by decide +kernel
theorem d_Push_weightOf_23 : decode prog_6_method_10_code 23 = .ok (.iload_n 1, 1) := by decide +kernel
theorem d_Push_weightOf_24 : decode prog_6_method_10_code 24 = .ok (.iaload, 1) := by decide +kernel
theorem d_Push_weightOf_25 : decode prog_6_method_10_code 25 = .ok (.goto 4, 3) := by decide +kernel
theorem d_Push_weightOf_28 : decode prog_6_method_10_code 28 = .ok (.iconst 0, 1) := by decide +kernel
theorem d_Push_weightOf_29 : decode prog_6_method_10_code 29 = .ok (.ireturn, 1) := by decide +kernel
