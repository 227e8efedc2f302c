/-! decode rows (printed by wip/whole/gen4.py) -/
theorem d_Push_pushOf_0 : decode prog_6_method_11_code 0 = .ok (.aload_n 0, 1) := by decide +kernel
theorem d_Push_pushOf_1 : decode prog_6_method_11_code 1 = .ok (.iload_n 1, 1) := by decide +kernel
theorem d_Push_pushOf_2 : decode prog_6_method_11_code 2 = .ok (.invokevirtual 28, 3) := by decide +kernel
theorem d_Push_pushOf_5 : decode prog_6_method_11_code 5 = .ok (.ifCond .ne 5, 3) := by decide +kernel
theorem d_Push_pushOf_8 : decode prog_6_method_11_code 8 = .ok (.iconst 0, 1) := by decide +kernel
theorem d_Push_pushOf_9 : decode prog_6_method_11_code 9 = .ok (.ireturn, 1) := by decide +kernel
theorem d_Push_pushOf_10 : decode prog_6_method_11_code 10 = .ok (.aload_n 2, 1) := by decide +kernel
theorem d_Push_pushOf_11 : decode prog_6_method_11_code 11 = .ok (.getfield 40, 3) := by decide +kernel
theorem d_Push_pushOf_14 : decode prog_6_method_11_code 14 = .ok (.ifCond .ne 7, 3) := by decide +kernel
theorem d_Push_pushOf_17 : decode prog_6_method_11_code 17 = .ok (.iconst 1, 1) := by decide +kernel
theorem d_Push_pushOf_18 : decode prog_6_method_11_code 18 = .ok (.goto 4, 3) := by decide +kernel
theorem d_Push_pushOf_21 : decode prog_6_method_11_code 21 = .ok (.iconst 0, 1) := by decide +kernel
theorem d_Push_pushOf_22 : decode prog_6_method_11_code 22 = .ok (.istore_n 3, 1) := by decide +kernel
theorem d_Push_pushOf_23 : decode prog_6_method_11_code 23 = .ok (.iload_n 3, 1) := by decide +kernel
theorem d_Push_pushOf_24 : decode prog_6_method_11_code 24 = .ok (.ifCond .eq 12, 3) := by decide +kernel
theorem d_Push_pushOf_27 : decode prog_6_method_11_code 27 = .ok (.aload_n 0, 1) := by decide +kernel
theorem d_Push_pushOf_28 : decode prog_6_method_11_code 28 = .ok (.getfield 13, 3) := by decide +kernel
theorem d_Push_pushOf_31 : decode prog_6_method_11_code 31 = .ok (.iload_n 1, 1) := by decide +kernel
theorem d_Push_pushOf_32 : decode prog_6_method_11_code 32 = .ok (.iaload, 1) := by decide +kernel
theorem d_Push_pushOf_33 : decode prog_6_method_11_code 33 = .ok (.goto 4, 3) := by decide +kernel
theorem d_Push_pushOf_36 : decode prog_6_method_11_code 36 = .ok (.iconst 0, 1) := by decide +kernel
theorem d_Push_pushOf_37 : decode prog_6_method_11_code 37 = .ok (.istore 4, 2) := by decide +kernel
theorem d_Push_pushOf_39 : decode prog_6_method_11_code 39 = .ok (.iload_n 3, 1) := by decide +kernel
theorem d_Push_pushOf_40 : decode prog_6_method_11_code 40 = .ok (.ifCond .eq 14, 3) := by decide +kernel
theorem d_Push_pushOf_43 : decode prog_6_method_11_code 43 = .ok (.aload_n 0, 1) := by decide +kernel
theorem d_Push_pushOf_44 : decode prog_6_method_11_code 44 = .ok (.getfield 13, 3) := by decide +kernel
theorem d_Push_pushOf_47 : decode prog_6_method_11_code 47 = .ok (.iload_n 1, 1) := by decide +kernel
theorem d_Push_pushOf_48 : decode prog_6_method_11_code 48 = .ok (.iaload, 1) := by decide +kernel
theorem d_Push_pushOf_49 : decode prog_6_method_11_code 49 = .ok (.iconst 2, 1) := by decide +kernel
theorem d_Push_pushOf_50 : decode prog_6_method_11_code 50 = .ok (.iadd, 1) := by decide +kernel
theorem d_Push_pushOf_51 : decode prog_6_method_11_code 51 = .ok (.goto 4, 3) := by decide +kernel
theorem d_Push_pushOf_54 : decode prog_6_method_11_code 54 = .ok (.iconst 0, 1) := by decide +kernel
theorem d_Push_pushOf_55 : decode prog_6_method_11_code 55 = .ok (.istore 5, 2) := by decide +kernel
theorem d_Push_pushOf_57 : decode prog_6_method_11_code 57 = .ok (.aload_n 2, 1) := by decide +kernel
theorem d_Push_pushOf_58 : decode prog_6_method_11_code 58 = .ok (.getfield 45, 3) := by decide +kernel
theorem d_Push_pushOf_61 : decode prog_6_method_11_code 61 = .ok (.iconst 2, 1) := by decide +kernel
theorem d_Push_pushOf_62 : decode prog_6_method_11_code 62 = .ok (.irem, 1) := by decide +kernel
theorem d_Push_pushOf_63 : decode prog_6_method_11_code 63 = .ok (.ifCond .ne 8, 3) := by decide +kernel
theorem d_Push_pushOf_66 : decode prog_6_method_11_code 66 = .ok (.iload 4, 2) := by decide +kernel
theorem d_Push_pushOf_68 : decode prog_6_method_11_code 68 = .ok (.goto 4, 3) := by decide +kernel
theorem d_Push_pushOf_71 : decode prog_6_method_11_code 71 = .ok (.iconst 0, 1) := by decide +kernel
theorem d_Push_pushOf_72 : decode prog_6_method_11_code 72 = .ok (.istore 6, 2) := by decide +kernel
theorem d_Push_pushOf_74 : decode prog_6_method_11_code 74 = .ok (.aload_n 0, 1) := by decide +kernel
theorem d_Push_pushOf_75 : decode prog_6_method_11_code 75 = .ok (.getfield 9, 3) := by decide +kernel
theorem d_Push_pushOf_78 : decode prog_6_method_11_code 78 = .ok (.iload_n 1, 1) := by decide +kernel
theorem d_Push_pushOf_79 : decode prog_6_method_11_code 79 = .ok (.iaload, 1) := by decide +kernel
theorem d_Push_pushOf_80 : decode prog_6_method_11_code 80 = .ok (.tableswitch 89 1 6 #[40, 43, 46, 61, 72, 87], 40) := by decide +kernel
theorem d_Push_pushOf_120 : decode prog_6_method_11_code 120 = .ok (.iload 5, 2) := by decide +kernel
theorem d_Push_pushOf_122 : decode prog_6_method_11_code 122 = .ok (.ireturn, 1) := by decide +kernel
theorem d_Push_pushOf_123 : decode prog_6_method_11_code 123 = .ok (.iload 6, 2) := by decide +kernel
theorem d_Push_pushOf_125 : decode prog_6_method_11_code 125 = .ok (.ireturn, 1) := by decide +kernel
theorem d_Push_pushOf_126 : decode prog_6_method_11_code 126 = .ok (.iload_n 3, 1) := by decide +kernel
theorem d_Push_pushOf_127 : decode prog_6_method_11_code 127 = .ok (.ifCond .eq 7, 3) := by decide +kernel
theorem d_Push_pushOf_130 : decode prog_6_method_11_code 130 = .ok (.iconst 0, 1) := by decide +kernel
theorem d_Push_pushOf_131 : decode prog_6_method_11_code 131 = .ok (.goto 9, 3) := by decide +kernel
theorem d_Push_pushOf_134 : decode prog_6_method_11_code 134 = .ok (.aload_n 0, 1) := by decide +kernel
theorem d_Push_pushOf_135 : decode prog_6_method_11_code 135 = .ok (.getfield 13, 3) := by decide +kernel
theorem d_Push_pushOf_138 : decode prog_6_method_11_code 138 = .ok (.iload_n 1, 1) := by decide +kernel
theorem d_Push_pushOf_139 : decode prog_6_method_11_code 139 = .ok (.iaload, 1) := by decide +kernel
theorem d_Push_pushOf_140 : decode prog_6_method_11_code 140 = .ok (.ireturn, 1) := by decide +kernel
theorem d_Push_pushOf_141 : decode prog_6_method_11_code 141 = .ok (.iload 5, 2) := by decide +kernel
theorem d_Push_pushOf_143 : decode prog_6_method_11_code 143 = .ok (.aload_n 2, 1) := by decide +kernel
theorem d_Push_pushOf_144 : decode prog_6_method_11_code 144 = .ok (.getfield 48, 3) := by decide +kernel
theorem d_Push_pushOf_147 : decode prog_6_method_11_code 147 = .ok (.bipush 8, 2) := by decide +kernel
theorem d_Push_pushOf_149 : decode prog_6_method_11_code 149 = .ok (.idiv, 1) := by decide +kernel
theorem d_Push_pushOf_150 : decode prog_6_method_11_code 150 = .ok (.iadd, 1) := by decide +kernel
theorem d_Push_pushOf_151 : decode prog_6_method_11_code 151 = .ok (.ireturn, 1) := by decide +kernel
theorem d_Push_pushOf_152 : decode prog_6_method_11_code 152 = .ok (.iconst 0, 1) := by decide +kernel
theorem d_Push_pushOf_153 : decode prog_6_method_11_code 153 = .ok (.iload 6, 2) := by decide +kernel
theorem d_Push_pushOf_155 : decode prog_6_method_11_code 155 = .ok (.aload_n 2, 1) := by decide +kernel
theorem d_Push_pushOf_156 : decode prog_6_method_11_code 156 = .ok (.getfield 45, 3) := by decide +kernel
theorem d_Push_pushOf_159 : decode prog_6_method_11_code 159 = .ok (.bipush 8, 2) := by decide +kernel
theorem d_Push_pushOf_161 : decode prog_6_method_11_code 161 = .ok (.idiv, 1) := by decide +kernel
theorem d_Push_pushOf_162 : decode prog_6_method_11_code 162 = .ok (.isub, 1) := by decide +kernel
theorem d_Push_pushOf_163 : decode prog_6_method_11_code 163 = .ok (.invokestatic 32, 3) := by decide +kernel
theorem d_Push_pushOf_166 : decode prog_6_method_11_code 166 = .ok (.ireturn, 1) := by decide +kernel
theorem d_Push_pushOf_167 : decode prog_6_method_11_code 167 = .ok (.iconst 0, 1) := by decide +kernel
theorem d_Push_pushOf_168 : decode prog_6_method_11_code 168 = .ok (.ireturn, 1) := by decide +kernel
theorem d_Push_pushOf_169 : decode prog_6_method_11_code 169 = .ok (.iload 4, 2) := by decide +kernel
theorem d_Push_pushOf_171 : decode prog_6_method_11_code 171 = .ok (.ireturn, 1) := by decide +kernel
theorem d_Push_weightOfSet_0 : decode prog_6_method_12_code 0 = .ok (.iconst 0, 1) := by decide +kernel
theorem d_Push_weightOfSet_1 : decode prog_6_method_12_code 1 = .ok (.istore_n 2, 1) := by decide +kernel
theorem d_Push_weightOfSet_2 : decode prog_6_method_12_code 2 = .ok (.iconst 0, 1) := by decide +kernel
theorem d_Push_weightOfSet_3 : decode prog_6_method_12_code 3 = .ok (.istore_n 3, 1) := by decide +kernel
theorem d_Push_weightOfSet_4 : decode prog_6_method_12_code 4 = .ok (.iload_n 3, 1) := by decide +kernel
theorem d_Push_weightOfSet_5 : decode prog_6_method_12_code 5 = .ok (.aload_n 0, 1) := by decide +kernel
theorem d_Push_weightOfSet_6 : decode prog_6_method_12_code 6 = .ok (.getfield 16, 3) := by decide +kernel
theorem d_Push_weightOfSet_9 : decode prog_6_method_12_code 9 = .ok (.if_icmp .ge 29, 3) := by decide +kernel
theorem d_Push_weightOfSet_12 : decode prog_6_method_12_code 12 = .ok (.iload_n 2, 1) := by decide +kernel
theorem d_Push_weightOfSet_13 : decode prog_6_method_12_code 13 = .ok (.iload_n 1, 1) := by decide +kernel
theorem d_Push_weightOfSet_14 : decode prog_6_method_12_code 14 = .ok (.iload_n 3, 1) := by decide +kernel
theorem d_Push_weightOfSet_15 : decode prog_6_method_12_code 15 = .ok (.invokestatic 51, 3) := by decide +kernel
theorem d_Push_weightOfSet_18 : decode prog_6_method_12_code 18 = .ok (.ifCond .eq 11, 3) := by decide +kernel
theorem d_Push_weightOfSet_21 : decode prog_6_method_12_code 21 = .ok (.aload_n 0, 1) := by decide +kernel
theorem d_Push_weightOfSet_22 : decode prog_6_method_12_code 22 = .ok (.iload_n 3, 1) := by decide +kernel
theorem d_Push_weightOfSet_23 : decode prog_6_method_12_code 23 = .ok (.invokevirtual 55, 3) := by decide +kernel
theorem d_Push_weightOfSet_26 : decode prog_6_method_12_code 26 = .ok (.goto 4, 3) := by decide +kernel
theorem d_Push_weightOfSet_29 : decode prog_6_method_12_code 29 = .ok (.iconst 0, 1) := by decide +kernel
theorem d_Push_weightOfSet_30 : decode prog_6_method_12_code 30 = .ok (.iadd, 1) := by decide +kernel
theorem d_Push_weightOfSet_31 : decode prog_6_method_12_code 31 = .ok (.istore_n 2, 1) := by decide +kernel
theorem d_Push_weightOfSet_32 : decode prog_6_method_12_code 32 = .ok (.iinc 3 1, 3) := by decide +kernel
theorem d_Push_weightOfSet_35 : decode prog_6_method_12_code 35 = .ok (.goto (-31), 3) := by decide +kernel
theorem d_Push_weightOfSet_38 : decode prog_6_method_12_code 38 = .ok (.iload_n 2, 1) := by decide +kernel
theorem d_Push_weightOfSet_39 : decode prog_6_method_12_code 39 = .ok (.ireturn, 1) := by decide +kernel
theorem d_Push_pushOfSet_0 : decode prog_6_method_13_code 0 = .ok (.iconst 0, 1) := by decide +kernel
theorem d_Push_pushOfSet_1 : decode prog_6_method_13_code 1 = .ok (.istore_n 3, 1) := by decide +kernel
theorem d_Push_pushOfSet_2 : decode prog_6_method_13_code 2 = .ok (.iconst 0, 1) := by decide +kernel
theorem d_Push_pushOfSet_3 : decode prog_6_method_13_code 3 = .ok (.istore 4, 2) := by decide +kernel
theorem d_Push_pushOfSet_5 : decode prog_6_method_13_code 5 = .ok (.iload 4, 2) := by decide +kernel
theorem d_Push_pushOfSet_7 : decode prog_6_method_13_code 7 = .ok (.aload_n 0, 1) := by decide +kernel
theorem d_Push_pushOfSet_8 : decode prog_6_method_13_code 8 = .ok (.getfield 16, 3) := by decide +kernel
theorem d_Push_pushOfSet_11 : decode prog_6_method_13_code 11 = .ok (.if_icmp .ge 32, 3) := by decide +kernel
theorem d_Push_pushOfSet_14 : decode prog_6_method_13_code 14 = .ok (.iload_n 3, 1) := by decide +kernel
theorem d_Push_pushOfSet_15 : decode prog_6_method_13_code 15 = .ok (.iload_n 1, 1) := by decide +kernel
theorem d_Push_pushOfSet_16 : decode prog_6_method_13_code 16 = .ok (.iload 4, 2) := by decide +kernel
theorem d_Push_pushOfSet_18 : decode prog_6_method_13_code 18 = .ok (.invokestatic 51, 3) := by decide +kernel
theorem d_Push_pushOfSet_21 : decode prog_6_method_13_code 21 = .ok (.ifCond .eq 13, 3) := by decide +kernel
theorem d_Push_pushOfSet_24 : decode prog_6_method_13_code 24 = .ok (.aload_n 0, 1) := by decide +kernel
theorem d_Push_pushOfSet_25 : decode prog_6_method_13_code 25 = .ok (.iload 4, 2) := by decide +kernel
theorem d_Push_pushOfSet_27 : decode prog_6_method_13_code 27 = .ok (.aload_n 2, 1) := by decide +kernel
theorem d_Push_pushOfSet_28 : decode prog_6_method_13_code 28 = .ok (.invokevirtual 59, 3) := by decide +kernel
theorem d_Push_pushOfSet_31 : decode prog_6_method_13_code 31 = .ok (.goto 4, 3) := by decide +kernel
theorem d_Push_pushOfSet_34 : decode prog_6_method_13_code 34 = .ok (.iconst 0, 1) := by decide +kernel
theorem d_Push_pushOfSet_35 : decode prog_6_method_13_code 35 = .ok (.iadd, 1) := by decide +kernel
theorem d_Push_pushOfSet_36 : decode prog_6_method_13_code 36 = .ok (.istore_n 3, 1) := by decide +kernel
theorem d_Push_pushOfSet_37 : decode prog_6_method_13_code 37 = .ok (.iinc 4 1, 3) := by decide +kernel
theorem d_Push_pushOfSet_40 : decode prog_6_method_13_code 40 = .ok (.goto (-35), 3) := by decide +kernel
theorem d_Push_pushOfSet_43 : decode prog_6_method_13_code 43 = .ok (.iload_n 3, 1) := by decide +kernel
theorem d_Push_pushOfSet_44 : decode prog_6_method_13_code 44 = .ok (.ireturn, 1) := by decide +kernel
theorem d_Push_copyFrom_0 : decode prog_6_method_14_code 0 = .ok (.aload_n 0, 1) := by decide +kernel
theorem d_Push_copyFrom_1 : decode prog_6_method_14_code 1 = .ok (.aload_n 1, 1) := by decide +kernel
theorem d_Push_copyFrom_2 : decode prog_6_method_14_code 2 = .ok (.getfield 16, 3) := by decide +kernel
theorem d_Push_copyFrom_5 : decode prog_6_method_14_code 5 = .ok (.putfield 16, 3) := by decide +kernel
theorem d_Push_copyFrom_8 : decode prog_6_method_14_code 8 = .ok (.aload_n 1, 1) := by decide +kernel
theorem d_Push_copyFrom_9 : decode prog_6_method_14_code 9 = .ok (.getfield 9, 3) := by decide +kernel
theorem d_Push_copyFrom_12 : decode prog_6_method_14_code 12 = .ok (.iconst 0, 1) := by decide +kernel
theorem d_Push_copyFrom_13 : decode prog_6_method_14_code 13 = .ok (.aload_n 0, 1) := by decide +kernel
theorem d_Push_copyFrom_14 : decode prog_6_method_14_code 14 = .ok (.getfield 9, 3) := by decide +kernel
theorem d_Push_copyFrom_17 : decode prog_6_method_14_code 17 = .ok (.iconst 0, 1) := by decide +kernel
theorem d_Push_copyFrom_18 : decode prog_6_method_14_code 18 = .ok (.bipush 6, 2) := by decide +kernel
theorem d_Push_copyFrom_20 : decode prog_6_method_14_code 20 = .ok (.invokestatic 63, 3) := by decide +kernel
theorem d_Push_copyFrom_23 : decode prog_6_method_14_code 23 = .ok (.aload_n 1, 1) := by decide +kernel
theorem d_Push_copyFrom_24 : decode prog_6_method_14_code 24 = .ok (.getfield 13, 3) := by decide +kernel
theorem d_Push_copyFrom_27 : decode prog_6_method_14_code 27 = .ok (.iconst 0, 1) := by decide +kernel
theorem d_Push_copyFrom_28 : decode prog_6_method_14_code 28 = .ok (.aload_n 0, 1) := by decide +kernel
theorem d_Push_copyFrom_29 : decode prog_6_method_14_code 29 = .ok (.getfield 13, 3) := by decide +kernel
theorem d_Push_copyFrom_32 : decode prog_6_method_14_code 32 = .ok (.iconst 0, 1) := by decide +kernel
theorem d_Push_copyFrom_33 : decode prog_6_method_14_code 33 = .ok (.bipush 6, 2) := by decide +kernel
theorem d_Push_copyFrom_35 : decode prog_6_method_14_code 35 = .ok (.invokestatic 63, 3) := by decide +kernel
theorem d_Push_copyFrom_38 : decode prog_6_method_14_code 38 = .ok (.return_, 1) := by decide +kernel
theorem d_Push_isIn_0 : decode prog_6_method_15_code 0 = .ok (.iload_n 0, 1) := by decide +kernel
theorem d_Push_isIn_1 : decode prog_6_method_15_code 1 = .ok (.iload_n 1, 1) := by decide +kernel
theorem d_Push_isIn_2 : decode prog_6_method_15_code 2 = .ok (.ishr, 1) := by decide +kernel
theorem d_Push_isIn_3 : decode prog_6_method_15_code 3 = .ok (.iconst 1, 1) := by decide +kernel
theorem d_Push_isIn_4 : decode prog_6_method_15_code 4 = .ok (.iand, 1) := by decide +kernel
theorem d_Push_isIn_5 : decode prog_6_method_15_code 5 = .ok (.iconst 1, 1) := by decide +kernel
theorem d_Push_isIn_6 : decode prog_6_method_15_code 6 = .ok (.if_icmp .ne 7, 3) := by decide +kernel
theorem d_Push_isIn_9 : decode prog_6_method_15_code 9 = .ok (.iconst 1, 1) := by decide +kernel
theorem d_Push_isIn_10 : decode prog_6_method_15_code 10 = .ok (.goto 4, 3) := by decide +kernel
theorem d_Push_isIn_13 : decode prog_6_method_15_code 13 = .ok (.iconst 0, 1) := by decide +kernel
theorem d_Push_isIn_14 : decode prog_6_method_15_code 14 = .ok (.ireturn, 1) := by decide +kernel
theorem d_World_init_0 : decode prog_11_method_1_code 0 = .ok (.aload_n 0, 1) := by decide +kernel
theorem d_World_init_1 : decode prog_11_method_1_code 1 = .ok (.invokespecial 1, 3) := by decide +kernel
theorem d_World_init_4 : decode prog_11_method_1_code 4 = .ok (.aload_n 0, 1) := by decide +kernel
theorem d_World_init_5 : decode prog_11_method_1_code 5 = .ok (.new 7, 3) := by decide +kernel
theorem d_World_init_8 : decode prog_11_method_1_code 8 = .ok (.dup, 1) := by decide +kernel
theorem d_World_init_9 : decode prog_11_method_1_code 9 = .ok (.invokespecial 9, 3) := by decide +kernel
theorem d_World_init_12 : decode prog_11_method_1_code 12 = .ok (.putfield 10, 3) := by decide +kernel
theorem d_World_init_15 : decode prog_11_method_1_code 15 = .ok (.aload_n 0, 1) := by decide +kernel
theorem d_World_init_16 : decode prog_11_method_1_code 16 = .ok (.new 16, 3) := by decide +kernel
theorem d_World_init_19 : decode prog_11_method_1_code 19 = .ok (.dup, 1) := by decide +kernel
theorem d_World_init_20 : decode prog_11_method_1_code 20 = .ok (.invokespecial 18, 3) := by decide +kernel
theorem d_World_init_23 : decode prog_11_method_1_code 23 = .ok (.putfield 19, 3) := by decide +kernel
theorem d_World_init_26 : decode prog_11_method_1_code 26 = .ok (.aload_n 0, 1) := by decide +kernel
theorem d_World_init_27 : decode prog_11_method_1_code 27 = .ok (.new 23, 3) := by decide +kernel
theorem d_World_init_30 : decode prog_11_method_1_code 30 = .ok (.dup, 1) := by decide +kernel
theorem d_World_init_31 : decode prog_11_method_1_code 31 = .ok (.iconst 0, 1) := by decide +kernel
theorem d_World_init_32 : decode prog_11_method_1_code 32 = .ok (.invokespecial 25, 3) := by decide +kernel
theorem d_World_init_35 : decode prog_11_method_1_code 35 = .ok (.putfield 28, 3) := by decide +kernel
theorem d_World_init_38 : decode prog_11_method_1_code 38 = .ok (.aload_n 0, 1) := by decide +kernel
theorem d_World_init_39 : decode prog_11_method_1_code 39 = .ok (.new 23, 3) := by decide +kernel
theorem d_World_init_42 : decode prog_11_method_1_code 42 = .ok (.dup, 1) := by decide +kernel
theorem d_World_init_43 : decode prog_11_method_1_code 43 = .ok (.iconst 1, 1) := by decide +kernel
theorem d_World_init_44 : decode prog_11_method_1_code 44 = .ok (.invokespecial 25, 3) := by decide +kernel
theorem d_World_init_47 : decode prog_11_method_1_code 47 = .ok (.putfield 32, 3) := by decide +kernel
theorem d_World_init_50 : decode prog_11_method_1_code 50 = .ok (.aload_n 0, 1) := by decide +kernel
theorem d_World_init_51 : decode prog_11_method_1_code 51 = .ok (.new 35, 3) := by decide +kernel
theorem d_World_init_54 : decode prog_11_method_1_code 54 = .ok (.dup, 1) := by decide +kernel
theorem d_World_init_55 : decode prog_11_method_1_code 55 = .ok (.bipush 60, 2) := by decide +kernel
theorem d_World_init_57 : decode prog_11_method_1_code 57 = .ok (.invokespecial 37, 3) := by decide +kernel
theorem d_World_init_60 : decode prog_11_method_1_code 60 = .ok (.putfield 38, 3) := by decide +kernel
theorem d_World_init_63 : decode prog_11_method_1_code 63 = .ok (.aload_n 0, 1) := by decide +kernel
theorem d_World_init_64 : decode prog_11_method_1_code 64 = .ok (.new 35, 3) := by decide +kernel
theorem d_World_init_67 : decode prog_11_method_1_code 67 = .ok (.dup, 1) := by decide +kernel
theorem d_World_init_68 : decode prog_11_method_1_code 68 = .ok (.bipush 24, 2) := by decide +kernel
theorem d_World_init_70 : decode prog_11_method_1_code 70 = .ok (.invokespecial 37, 3) := by decide +kernel
theorem d_World_init_73 : decode prog_11_method_1_code 73 = .ok (.putfield 42, 3) := by decide +kernel
theorem d_World_init_76 : decode prog_11_method_1_code 76 = .ok (.aload_n 0, 1) := by decide +kernel
theorem d_World_init_77 : decode prog_11_method_1_code 77 = .ok (.iconst 1, 1) := by decide +kernel
theorem d_World_init_78 : decode prog_11_method_1_code 78 = .ok (.putfield 45, 3) := by decide +kernel
theorem d_World_init_81 : decode prog_11_method_1_code 81 = .ok (.return_, 1) := by decide +kernel
theorem d_World_lawOf_0 : decode prog_11_method_2_code 0 = .ok (.iload_n 1, 1) := by decide +kernel
theorem d_World_lawOf_1 : decode prog_11_method_2_code 1 = .ok (.ifCond .ne 10, 3) := by decide +kernel
theorem d_World_lawOf_4 : decode prog_11_method_2_code 4 = .ok (.aload_n 0, 1) := by decide +kernel
theorem d_World_lawOf_5 : decode prog_11_method_2_code 5 = .ok (.getfield 28, 3) := by decide +kernel
theorem d_World_lawOf_8 : decode prog_11_method_2_code 8 = .ok (.goto 7, 3) := by decide +kernel
theorem d_World_lawOf_11 : decode prog_11_method_2_code 11 = .ok (.aload_n 0, 1) := by decide +kernel
theorem d_World_lawOf_12 : decode prog_11_method_2_code 12 = .ok (.getfield 32, 3) := by decide +kernel
theorem d_World_lawOf_15 : decode prog_11_method_2_code 15 = .ok (.areturn, 1) := by decide +kernel
theorem d_World_gripOf_0 : decode prog_11_method_3_code 0 = .ok (.aload_n 1, 1) := by decide +kernel
theorem d_World_gripOf_1 : decode prog_11_method_3_code 1 = .ok (.getfield 49, 3) := by decide +kernel
theorem d_World_gripOf_4 : decode prog_11_method_3_code 4 = .ok (.ifCond .ne 7, 3) := by decide +kernel
theorem d_World_gripOf_7 : decode prog_11_method_3_code 7 = .ok (.iconst 0, 1) := by decide +kernel
theorem d_World_gripOf_8 : decode prog_11_method_3_code 8 = .ok (.goto 4, 3) := by decide +kernel
theorem d_World_gripOf_11 : decode prog_11_method_3_code 11 = .ok (.iconst 3, 1) := by decide +kernel
theorem d_World_gripOf_12 : decode prog_11_method_3_code 12 = .ok (.istore_n 3, 1) := by decide +kernel
theorem d_World_gripOf_13 : decode prog_11_method_3_code 13 = .ok (.aload_n 0, 1) := by decide +kernel
theorem d_World_gripOf_14 : decode prog_11_method_3_code 14 = .ok (.getfield 28, 3) := by decide +kernel
theorem d_World_gripOf_17 : decode prog_11_method_3_code 17 = .ok (.aload_n 1, 1) := by decide +kernel
theorem d_World_gripOf_18 : decode prog_11_method_3_code 18 = .ok (.getfield 52, 3) := by decide +kernel
theorem d_World_gripOf_21 : decode prog_11_method_3_code 21 = .ok (.aload_n 1, 1) := by decide +kernel
theorem d_World_gripOf_22 : decode prog_11_method_3_code 22 = .ok (.getfield 55, 3) := by decide +kernel
theorem d_World_gripOf_25 : decode prog_11_method_3_code 25 = .ok (.aload_n 0, 1) := by decide +kernel
theorem d_World_gripOf_26 : decode prog_11_method_3_code 26 = .ok (.getfield 19, 3) := by decide +kernel
theorem d_World_gripOf_29 : decode prog_11_method_3_code 29 = .ok (.iload_n 2, 1) := by decide +kernel
theorem d_World_gripOf_30 : decode prog_11_method_3_code 30 = .ok (.invokevirtual 58, 3) := by decide +kernel
theorem d_World_gripOf_33 : decode prog_11_method_3_code 33 = .ok (.invokevirtual 62, 3) := by decide +kernel
theorem d_World_gripOf_36 : decode prog_11_method_3_code 36 = .ok (.iload_n 3, 1) := by decide +kernel
theorem d_World_gripOf_37 : decode prog_11_method_3_code 37 = .ok (.iadd, 1) := by decide +kernel
theorem d_World_gripOf_38 : decode prog_11_method_3_code 38 = .ok (.ireturn, 1) := by decide +kernel
theorem d_World_pushOf_0 : decode prog_11_method_4_code 0 = .ok (.aload_n 0, 1) := by decide +kernel
theorem d_World_pushOf_1 : decode prog_11_method_4_code 1 = .ok (.getfield 19, 3) := by decide +kernel
theorem d_World_pushOf_4 : decode prog_11_method_4_code 4 = .ok (.iload_n 2, 1) := by decide +kernel
theorem d_World_pushOf_5 : decode prog_11_method_4_code 5 = .ok (.aload_n 1, 1) := by decide +kernel
theorem d_World_pushOf_6 : decode prog_11_method_4_code 6 = .ok (.invokevirtual 66, 3) := by decide +kernel
theorem d_World_pushOf_9 : decode prog_11_method_4_code 9 = .ok (.ireturn, 1) := by decide +kernel
theorem d_World_rubOf_0 : decode prog_11_method_5_code 0 = .ok (.aload_n 0, 1) := by decide +kernel
theorem d_World_rubOf_1 : decode prog_11_method_5_code 1 = .ok (.getfield 32, 3) := by decide +kernel
theorem d_World_rubOf_4 : decode prog_11_method_5_code 4 = .ok (.aload_n 1, 1) := by decide +kernel
theorem d_World_rubOf_5 : decode prog_11_method_5_code 5 = .ok (.getfield 70, 3) := by decide +kernel
theorem d_World_rubOf_8 : decode prog_11_method_5_code 8 = .ok (.aload_n 1, 1) := by decide +kernel
theorem d_World_rubOf_9 : decode prog_11_method_5_code 9 = .ok (.getfield 55, 3) := by decide +kernel
theorem d_World_rubOf_12 : decode prog_11_method_5_code 12 = .ok (.aload_n 1, 1) := by decide +kernel
theorem d_World_rubOf_13 : decode prog_11_method_5_code 13 = .ok (.getfield 73, 3) := by decide +kernel
theorem d_World_rubOf_16 : decode prog_11_method_5_code 16 = .ok (.invokevirtual 62, 3) := by decide +kernel
theorem d_World_rubOf_19 : decode prog_11_method_5_code 19 = .ok (.ireturn, 1) := by decide +kernel
theorem d_World_drive_0 : decode prog_11_method_6_code 0 = .ok (.aload_n 1, 1) := by decide +kernel
theorem d_World_drive_1 : decode prog_11_method_6_code 1 = .ok (.iload_n 2, 1) := by decide +kernel
theorem d_World_drive_2 : decode prog_11_method_6_code 2 = .ok (.aload_n 0, 1) := by decide +kernel
theorem d_World_drive_3 : decode prog_11_method_6_code 3 = .ok (.aload_n 1, 1) := by decide +kernel
theorem d_World_drive_4 : decode prog_11_method_6_code 4 = .ok (.iload_n 3, 1) := by decide +kernel
theorem d_World_drive_5 : decode prog_11_method_6_code 5 = .ok (.invokevirtual 76, 3) := by decide +kernel
theorem d_World_drive_8 : decode prog_11_method_6_code 8 = .ok (.aload_n 0, 1) := by decide +kernel
theorem d_World_drive_9 : decode prog_11_method_6_code 9 = .ok (.aload_n 1, 1) := by decide +kernel
theorem d_World_drive_10 : decode prog_11_method_6_code 10 = .ok (.iload_n 3, 1) := by decide +kernel
theorem d_World_drive_11 : decode prog_11_method_6_code 11 = .ok (.invokevirtual 80, 3) := by decide +kernel
theorem d_World_drive_14 : decode prog_11_method_6_code 14 = .ok (.aload_n 0, 1) := by decide +kernel
theorem d_World_drive_15 : decode prog_11_method_6_code 15 = .ok (.aload_n 1, 1) := by decide +kernel
theorem d_World_drive_16 : decode prog_11_method_6_code 16 = .ok (.invokevirtual 83, 3) := by decide +kernel
theorem d_World_drive_19 : decode prog_11_method_6_code 19 = .ok (.invokevirtual 87, 3) := by decide +kernel
theorem d_World_drive_22 : decode prog_11_method_6_code 22 = .ok (.ireturn, 1) := by decide +kernel
theorem d_World_swingsTillOut_0 : decode prog_11_method_7_code 0 = .ok (.iconst 0, 1) := by decide +kernel
theorem d_World_swingsTillOut_1 : decode prog_11_method_7_code 1 = .ok (.istore 5, 2) := by decide +kernel
theorem d_World_swingsTillOut_3 : decode prog_11_method_7_code 3 = .ok (.iload 5, 2) := by decide +kernel
theorem d_World_swingsTillOut_5 : decode prog_11_method_7_code 5 = .ok (.iload_n 3, 1) := by decide +kernel
theorem d_World_swingsTillOut_6 : decode prog_11_method_7_code 6 = .ok (.if_icmp .ge 25, 3) := by decide +kernel
theorem d_World_swingsTillOut_9 : decode prog_11_method_7_code 9 = .ok (.aload_n 1, 1) := by decide +kernel
theorem d_World_swingsTillOut_10 : decode prog_11_method_7_code 10 = .ok (.getfield 91, 3) := by decide +kernel
theorem d_World_swingsTillOut_13 : decode prog_11_method_7_code 13 = .ok (.ifCond .ne 18, 3) := by decide +kernel
theorem d_World_swingsTillOut_16 : decode prog_11_method_7_code 16 = .ok (.aload_n 0, 1) := by decide +kernel
theorem d_World_swingsTillOut_17 : decode prog_11_method_7_code 17 = .ok (.aload_n 1, 1) := by decide +kernel
theorem d_World_swingsTillOut_18 : decode prog_11_method_7_code 18 = .ok (.iload_n 2, 1) := by decide +kernel
theorem d_World_swingsTillOut_19 : decode prog_11_method_7_code 19 = .ok (.iload 4, 2) := by decide +kernel
theorem d_World_swingsTillOut_21 : decode prog_11_method_7_code 21 = .ok (.invokevirtual 95, 3) := by decide +kernel
theorem d_World_swingsTillOut_24 : decode prog_11_method_7_code 24 = .ok (.pop, 1) := by decide +kernel
theorem d_World_swingsTillOut_25 : decode prog_11_method_7_code 25 = .ok (.iinc 5 1, 3) := by decide +kernel
theorem d_World_swingsTillOut_28 : decode prog_11_method_7_code 28 = .ok (.goto (-25), 3) := by decide +kernel
theorem d_World_swingsTillOut_31 : decode prog_11_method_7_code 31 = .ok (.aload_n 1, 1) := by decide +kernel
theorem d_World_swingsTillOut_32 : decode prog_11_method_7_code 32 = .ok (.getfield 91, 3) := by decide +kernel
theorem d_World_swingsTillOut_35 : decode prog_11_method_7_code 35 = .ok (.ifCond .eq 8, 3) := by decide +kernel
theorem d_World_swingsTillOut_38 : decode prog_11_method_7_code 38 = .ok (.iload 5, 2) := by decide +kernel
theorem d_World_swingsTillOut_40 : decode prog_11_method_7_code 40 = .ok (.goto 4, 3) := by decide +kernel
theorem d_World_swingsTillOut_43 : decode prog_11_method_7_code 43 = .ok (.iconst (-1), 1) := by decide +kernel
theorem d_World_swingsTillOut_44 : decode prog_11_method_7_code 44 = .ok (.ireturn, 1) := by decide +kernel
theorem d_World_copyFrom_0 : decode prog_11_method_8_code 0 = .ok (.aload_n 0, 1) := by decide +kernel
theorem d_World_copyFrom_1 : decode prog_11_method_8_code 1 = .ok (.getfield 10, 3) := by decide +kernel
theorem d_World_copyFrom_4 : decode prog_11_method_8_code 4 = .ok (.aload_n 1, 1) := by decide +kernel
theorem d_World_copyFrom_5 : decode prog_11_method_8_code 5 = .ok (.getfield 10, 3) := by decide +kernel
theorem d_World_copyFrom_8 : decode prog_11_method_8_code 8 = .ok (.invokevirtual 99, 3) := by decide +kernel
theorem d_World_copyFrom_11 : decode prog_11_method_8_code 11 = .ok (.aload_n 0, 1) := by decide +kernel
theorem d_World_copyFrom_12 : decode prog_11_method_8_code 12 = .ok (.getfield 19, 3) := by decide +kernel
theorem d_World_copyFrom_15 : decode prog_11_method_8_code 15 = .ok (.aload_n 1, 1) := by decide +kernel
theorem d_World_copyFrom_16 : decode prog_11_method_8_code 16 = .ok (.getfield 19, 3) := by decide +kernel
theorem d_World_copyFrom_19 : decode prog_11_method_8_code 19 = .ok (.invokevirtual 103, 3) := by decide +kernel
theorem d_World_copyFrom_22 : decode prog_11_method_8_code 22 = .ok (.aload_n 0, 1) := by decide +kernel
theorem d_World_copyFrom_23 : decode prog_11_method_8_code 23 = .ok (.getfield 28, 3) := by decide +kernel
theorem d_World_copyFrom_26 : decode prog_11_method_8_code 26 = .ok (.aload_n 1, 1) := by decide +kernel
theorem d_World_copyFrom_27 : decode prog_11_method_8_code 27 = .ok (.getfield 28, 3) := by decide +kernel
theorem d_World_copyFrom_30 : decode prog_11_method_8_code 30 = .ok (.invokevirtual 106, 3) := by decide +kernel
theorem d_World_copyFrom_33 : decode prog_11_method_8_code 33 = .ok (.aload_n 0, 1) := by decide +kernel
theorem d_World_copyFrom_34 : decode prog_11_method_8_code 34 = .ok (.getfield 32, 3) := by decide +kernel
theorem d_World_copyFrom_37 : decode prog_11_method_8_code 37 = .ok (.aload_n 1, 1) := by decide +kernel
theorem d_World_copyFrom_38 : decode prog_11_method_8_code 38 = .ok (.getfield 32, 3) := by decide +kernel
theorem d_World_copyFrom_41 : decode prog_11_method_8_code 41 = .ok (.invokevirtual 106, 3) := by decide +kernel
theorem d_World_copyFrom_44 : decode prog_11_method_8_code 44 = .ok (.aload_n 0, 1) := by decide +kernel
theorem d_World_copyFrom_45 : decode prog_11_method_8_code 45 = .ok (.getfield 38, 3) := by decide +kernel
theorem d_World_copyFrom_48 : decode prog_11_method_8_code 48 = .ok (.aload_n 1, 1) := by decide +kernel
theorem d_World_copyFrom_49 : decode prog_11_method_8_code 49 = .ok (.getfield 38, 3) := by decide +kernel
theorem d_World_copyFrom_52 : decode prog_11_method_8_code 52 = .ok (.invokevirtual 109, 3) := by decide +kernel
theorem d_World_copyFrom_55 : decode prog_11_method_8_code 55 = .ok (.aload_n 0, 1) := by decide +kernel
theorem d_World_copyFrom_56 : decode prog_11_method_8_code 56 = .ok (.getfield 42, 3) := by decide +kernel
theorem d_World_copyFrom_59 : decode prog_11_method_8_code 59 = .ok (.aload_n 1, 1) := by decide +kernel
theorem d_World_copyFrom_60 : decode prog_11_method_8_code 60 = .ok (.getfield 42, 3) := by decide +kernel
theorem d_World_copyFrom_63 : decode prog_11_method_8_code 63 = .ok (.invokevirtual 109, 3) := by decide +kernel
theorem d_World_copyFrom_66 : decode prog_11_method_8_code 66 = .ok (.aload_n 0, 1) := by decide +kernel
theorem d_World_copyFrom_67 : decode prog_11_method_8_code 67 = .ok (.aload_n 1, 1) := by decide +kernel
theorem d_World_copyFrom_68 : decode prog_11_method_8_code 68 = .ok (.getfield 45, 3) := by decide +kernel
theorem d_World_copyFrom_71 : decode prog_11_method_8_code 71 = .ok (.putfield 45, 3) := by decide +kernel
theorem d_World_copyFrom_74 : decode prog_11_method_8_code 74 = .ok (.return_, 1) := by decide +kernel
theorem d_Car_init_0 : decode prog_2_method_1_code 0 = .ok (.aload_n 0, 1) := by decide +kernel
theorem d_Car_init_1 : decode prog_2_method_1_code 1 = .ok (.invokespecial 1, 3) := by decide +kernel
theorem d_Car_init_4 : decode prog_2_method_1_code 4 = .ok (.aload_n 0, 1) := by decide +kernel
theorem d_Car_init_5 : decode prog_2_method_1_code 5 = .ok (.bipush 20, 2) := by decide +kernel
theorem d_Car_init_7 : decode prog_2_method_1_code 7 = .ok (.putfield 7, 3) := by decide +kernel
theorem d_Car_init_10 : decode prog_2_method_1_code 10 = .ok (.aload_n 0, 1) := by decide +kernel
theorem d_Car_init_11 : decode prog_2_method_1_code 11 = .ok (.iconst 0, 1) := by decide +kernel
theorem d_Car_init_12 : decode prog_2_method_1_code 12 = .ok (.putfield 13, 3) := by decide +kernel
theorem d_Car_init_15 : decode prog_2_method_1_code 15 = .ok (.aload_n 0, 1) := by decide +kernel
theorem d_Car_init_16 : decode prog_2_method_1_code 16 = .ok (.iconst 0, 1) := by decide +kernel
theorem d_Car_init_17 : decode prog_2_method_1_code 17 = .ok (.putfield 16, 3) := by decide +kernel
theorem d_Car_init_20 : decode prog_2_method_1_code 20 = .ok (.aload_n 0, 1) := by decide +kernel
theorem d_Car_init_21 : decode prog_2_method_1_code 21 = .ok (.iconst 0, 1) := by decide +kernel
theorem d_Car_init_22 : decode prog_2_method_1_code 22 = .ok (.putfield 19, 3) := by decide +kernel
theorem d_Car_init_25 : decode prog_2_method_1_code 25 = .ok (.aload_n 0, 1) := by decide +kernel
theorem d_Car_init_26 : decode prog_2_method_1_code 26 = .ok (.iconst 0, 1) := by decide +kernel
theorem d_Car_init_27 : decode prog_2_method_1_code 27 = .ok (.putfield 22, 3) := by decide +kernel
theorem d_Car_init_30 : decode prog_2_method_1_code 30 = .ok (.aload_n 0, 1) := by decide +kernel
theorem d_Car_init_31 : decode prog_2_method_1_code 31 = .ok (.iconst 0, 1) := by decide +kernel
theorem d_Car_init_32 : decode prog_2_method_1_code 32 = .ok (.putfield 25, 3) := by decide +kernel
theorem d_Car_init_35 : decode prog_2_method_1_code 35 = .ok (.aload_n 0, 1) := by decide +kernel
theorem d_Car_init_36 : decode prog_2_method_1_code 36 = .ok (.iconst 0, 1) := by decide +kernel
theorem d_Car_init_37 : decode prog_2_method_1_code 37 = .ok (.putfield 28, 3) := by decide +kernel
theorem d_Car_init_40 : decode prog_2_method_1_code 40 = .ok (.aload_n 0, 1) := by decide +kernel
theorem d_Car_init_41 : decode prog_2_method_1_code 41 = .ok (.iconst 0, 1) := by decide +kernel
theorem d_Car_init_42 : decode prog_2_method_1_code 42 = .ok (.putfield 31, 3) := by decide +kernel
theorem d_Car_init_45 : decode prog_2_method_1_code 45 = .ok (.return_, 1) := by decide +kernel
theorem d_Car_canBecome_0 : decode prog_2_method_2_code 0 = .ok (.iload_n 0, 1) := by decide +kernel
theorem d_Car_canBecome_1 : decode prog_2_method_2_code 1 = .ok (.tableswitch 58 0 4 #[35, 43, 43, 51, 43], 35) := by decide +kernel
theorem d_Car_canBecome_36 : decode prog_2_method_2_code 36 = .ok (.iload_n 1, 1) := by decide +kernel
theorem d_Car_canBecome_37 : decode prog_2_method_2_code 37 = .ok (.iconst 1, 1) := by decide +kernel
theorem d_Car_canBecome_38 : decode prog_2_method_2_code 38 = .ok (.bipush 60, 2) := by decide +kernel
theorem d_Car_canBecome_40 : decode prog_2_method_2_code 40 = .ok (.invokestatic 35, 3) := by decide +kernel
theorem d_Car_canBecome_43 : decode prog_2_method_2_code 43 = .ok (.ireturn, 1) := by decide +kernel
theorem d_Car_canBecome_44 : decode prog_2_method_2_code 44 = .ok (.iload_n 1, 1) := by decide +kernel
theorem d_Car_canBecome_45 : decode prog_2_method_2_code 45 = .ok (.iconst 0, 1) := by decide +kernel
theorem d_Car_canBecome_46 : decode prog_2_method_2_code 46 = .ok (.bipush 99, 2) := by decide +kernel
theorem d_Car_canBecome_48 : decode prog_2_method_2_code 48 = .ok (.invokestatic 35, 3) := by decide +kernel
theorem d_Car_canBecome_51 : decode prog_2_method_2_code 51 = .ok (.ireturn, 1) := by decide +kernel
theorem d_Car_canBecome_52 : decode prog_2_method_2_code 52 = .ok (.iload_n 1, 1) := by decide +kernel
theorem d_Car_canBecome_53 : decode prog_2_method_2_code 53 = .ok (.iconst 0, 1) := by decide +kernel
theorem d_Car_canBecome_54 : decode prog_2_method_2_code 54 = .ok (.iconst 1, 1) := by decide +kernel
theorem d_Car_canBecome_55 : decode prog_2_method_2_code 55 = .ok (.invokestatic 35, 3) := by decide +kernel
theorem d_Car_canBecome_58 : decode prog_2_method_2_code 58 = .ok (.ireturn, 1) := by decide +kernel
theorem d_Car_canBecome_59 : decode prog_2_method_2_code 59 = .ok (.iconst 0, 1) := by decide +kernel
theorem d_Car_canBecome_60 : decode prog_2_method_2_code 60 = .ok (.ireturn, 1) := by decide +kernel
theorem d_Car_tells_0 : decode prog_2_method_3_code 0 = .ok (.iload_n 1, 1) := by decide +kernel
theorem d_Car_tells_1 : decode prog_2_method_3_code 1 = .ok (.tableswitch 77 0 5 #[39, 44, 49, 54, 59, 64], 39) := by decide +kernel
theorem d_Car_tells_40 : decode prog_2_method_3_code 40 = .ok (.aload_n 0, 1) := by decide +kernel
theorem d_Car_tells_41 : decode prog_2_method_3_code 41 = .ok (.getfield 7, 3) := by decide +kernel
theorem d_Car_tells_44 : decode prog_2_method_3_code 44 = .ok (.ireturn, 1) := by decide +kernel
theorem d_Car_tells_45 : decode prog_2_method_3_code 45 = .ok (.aload_n 0, 1) := by decide +kernel
theorem d_Car_tells_46 : decode prog_2_method_3_code 46 = .ok (.getfield 13, 3) := by decide +kernel
theorem d_Car_tells_49 : decode prog_2_method_3_code 49 = .ok (.ireturn, 1) := by decide +kernel
theorem d_Car_tells_50 : decode prog_2_method_3_code 50 = .ok (.aload_n 0, 1) := by decide +kernel
theorem d_Car_tells_51 : decode prog_2_method_3_code 51 = .ok (.getfield 16, 3) := by decide +kernel
theorem d_Car_tells_54 : decode prog_2_method_3_code 54 = .ok (.ireturn, 1) := by decide +kernel
theorem d_Car_tells_55 : decode prog_2_method_3_code 55 = .ok (.aload_n 0, 1) := by decide +kernel
theorem d_Car_tells_56 : decode prog_2_method_3_code 56 = .ok (.getfield 19, 3) := by decide +kernel
theorem d_Car_tells_59 : decode prog_2_method_3_code 59 = .ok (.ireturn, 1) := by decide +kernel
theorem d_Car_tells_60 : decode prog_2_method_3_code 60 = .ok (.aload_n 0, 1) := by decide +kernel
theorem d_Car_tells_61 : decode prog_2_method_3_code 61 = .ok (.getfield 22, 3) := by decide +kernel
theorem d_Car_tells_64 : decode prog_2_method_3_code 64 = .ok (.ireturn, 1) := by decide +kernel
theorem d_Car_tells_65 : decode prog_2_method_3_code 65 = .ok (.aload_n 0, 1) := by decide +kernel
theorem d_Car_tells_66 : decode prog_2_method_3_code 66 = .ok (.getfield 31, 3) := by decide +kernel
theorem d_Car_tells_69 : decode prog_2_method_3_code 69 = .ok (.ifCond .eq 7, 3) := by decide +kernel
theorem d_Car_tells_72 : decode prog_2_method_3_code 72 = .ok (.iconst 1, 1) := by decide +kernel
theorem d_Car_tells_73 : decode prog_2_method_3_code 73 = .ok (.goto 4, 3) := by decide +kernel
theorem d_Car_tells_76 : decode prog_2_method_3_code 76 = .ok (.iconst 0, 1) := by decide +kernel
theorem d_Car_tells_77 : decode prog_2_method_3_code 77 = .ok (.ireturn, 1) := by decide +kernel
theorem d_Car_tells_78 : decode prog_2_method_3_code 78 = .ok (.aload_n 0, 1) := by decide +kernel
theorem d_Car_tells_79 : decode prog_2_method_3_code 79 = .ok (.getfield 28, 3) := by decide +kernel
theorem d_Car_tells_82 : decode prog_2_method_3_code 82 = .ok (.ireturn, 1) := by decide +kernel
theorem d_Car_alter_0 : decode prog_2_method_4_code 0 = .ok (.iload_n 1, 1) := by decide +kernel
theorem d_Car_alter_1 : decode prog_2_method_4_code 1 = .ok (.tableswitch 75 0 4 #[35, 43, 51, 59, 67], 35) := by decide +kernel
theorem d_Car_alter_36 : decode prog_2_method_4_code 36 = .ok (.aload_n 0, 1) := by decide +kernel
theorem d_Car_alter_37 : decode prog_2_method_4_code 37 = .ok (.iload_n 2, 1) := by decide +kernel
theorem d_Car_alter_38 : decode prog_2_method_4_code 38 = .ok (.putfield 7, 3) := by decide +kernel
theorem d_Car_alter_41 : decode prog_2_method_4_code 41 = .ok (.goto 35, 3) := by decide +kernel
theorem d_Car_alter_44 : decode prog_2_method_4_code 44 = .ok (.aload_n 0, 1) := by decide +kernel
theorem d_Car_alter_45 : decode prog_2_method_4_code 45 = .ok (.iload_n 2, 1) := by decide +kernel
theorem d_Car_alter_46 : decode prog_2_method_4_code 46 = .ok (.putfield 13, 3) := by decide +kernel
theorem d_Car_alter_49 : decode prog_2_method_4_code 49 = .ok (.goto 27, 3) := by decide +kernel
theorem d_Car_alter_52 : decode prog_2_method_4_code 52 = .ok (.aload_n 0, 1) := by decide +kernel
theorem d_Car_alter_53 : decode prog_2_method_4_code 53 = .ok (.iload_n 2, 1) := by decide +kernel
theorem d_Car_alter_54 : decode prog_2_method_4_code 54 = .ok (.putfield 16, 3) := by decide +kernel
theorem d_Car_alter_57 : decode prog_2_method_4_code 57 = .ok (.goto 19, 3) := by decide +kernel
theorem d_Car_alter_60 : decode prog_2_method_4_code 60 = .ok (.aload_n 0, 1) := by decide +kernel
theorem d_Car_alter_61 : decode prog_2_method_4_code 61 = .ok (.iload_n 2, 1) := by decide +kernel
theorem d_Car_alter_62 : decode prog_2_method_4_code 62 = .ok (.putfield 19, 3) := by decide +kernel
theorem d_Car_alter_65 : decode prog_2_method_4_code 65 = .ok (.goto 11, 3) := by decide +kernel
theorem d_Car_alter_68 : decode prog_2_method_4_code 68 = .ok (.aload_n 0, 1) := by decide +kernel
theorem d_Car_alter_69 : decode prog_2_method_4_code 69 = .ok (.iload_n 2, 1) := by decide +kernel
theorem d_Car_alter_70 : decode prog_2_method_4_code 70 = .ok (.putfield 22, 3) := by decide +kernel
theorem d_Car_alter_73 : decode prog_2_method_4_code 73 = .ok (.goto 3, 3) := by decide +kernel
theorem d_Car_alter_76 : decode prog_2_method_4_code 76 = .ok (.return_, 1) := by decide +kernel
theorem d_Car_standIn_0 : decode prog_2_method_5_code 0 = .ok (.aload_n 0, 1) := by decide +kernel
theorem d_Car_standIn_1 : decode prog_2_method_5_code 1 = .ok (.iload_n 1, 1) := by decide +kernel
theorem d_Car_standIn_2 : decode prog_2_method_5_code 2 = .ok (.putfield 7, 3) := by decide +kernel
theorem d_Car_standIn_5 : decode prog_2_method_5_code 5 = .ok (.aload_n 0, 1) := by decide +kernel
theorem d_Car_standIn_6 : decode prog_2_method_5_code 6 = .ok (.iconst 0, 1) := by decide +kernel
theorem d_Car_standIn_7 : decode prog_2_method_5_code 7 = .ok (.putfield 13, 3) := by decide +kernel
theorem d_Car_standIn_10 : decode prog_2_method_5_code 10 = .ok (.aload_n 0, 1) := by decide +kernel
theorem d_Car_standIn_11 : decode prog_2_method_5_code 11 = .ok (.iconst 0, 1) := by decide +kernel
theorem d_Car_standIn_12 : decode prog_2_method_5_code 12 = .ok (.putfield 16, 3) := by decide +kernel
theorem d_Car_standIn_15 : decode prog_2_method_5_code 15 = .ok (.aload_n 0, 1) := by decide +kernel
theorem d_Car_standIn_16 : decode prog_2_method_5_code 16 = .ok (.iconst 0, 1) := by decide +kernel
theorem d_Car_standIn_17 : decode prog_2_method_5_code 17 = .ok (.putfield 19, 3) := by decide +kernel
theorem d_Car_standIn_20 : decode prog_2_method_5_code 20 = .ok (.aload_n 0, 1) := by decide +kernel
theorem d_Car_standIn_21 : decode prog_2_method_5_code 21 = .ok (.iconst 0, 1) := by decide +kernel
theorem d_Car_standIn_22 : decode prog_2_method_5_code 22 = .ok (.putfield 31, 3) := by decide +kernel
theorem d_Car_standIn_25 : decode prog_2_method_5_code 25 = .ok (.return_, 1) := by decide +kernel
theorem d_Car_dig_0 : decode prog_2_method_6_code 0 = .ok (.aload_n 0, 1) := by decide +kernel
theorem d_Car_dig_1 : decode prog_2_method_6_code 1 = .ok (.iconst 1, 1) := by decide +kernel
theorem d_Car_dig_2 : decode prog_2_method_6_code 2 = .ok (.aload_n 0, 1) := by decide +kernel
theorem d_Car_dig_3 : decode prog_2_method_6_code 3 = .ok (.getfield 7, 3) := by decide +kernel
theorem d_Car_dig_6 : decode prog_2_method_6_code 6 = .ok (.iload_n 1, 1) := by decide +kernel
theorem d_Car_dig_7 : decode prog_2_method_6_code 7 = .ok (.isub, 1) := by decide +kernel
theorem d_Car_dig_8 : decode prog_2_method_6_code 8 = .ok (.invokestatic 41, 3) := by decide +kernel
theorem d_Car_dig_11 : decode prog_2_method_6_code 11 = .ok (.putfield 7, 3) := by decide +kernel
theorem d_Car_dig_14 : decode prog_2_method_6_code 14 = .ok (.aload_n 0, 1) := by decide +kernel
theorem d_Car_dig_15 : decode prog_2_method_6_code 15 = .ok (.iconst 0, 1) := by decide +kernel
theorem d_Car_dig_16 : decode prog_2_method_6_code 16 = .ok (.aload_n 0, 1) := by decide +kernel
theorem d_Car_dig_17 : decode prog_2_method_6_code 17 = .ok (.getfield 13, 3) := by decide +kernel
theorem d_Car_dig_20 : decode prog_2_method_6_code 20 = .ok (.iconst 2, 1) := by decide +kernel
theorem d_Car_dig_21 : decode prog_2_method_6_code 21 = .ok (.iload_n 1, 1) := by decide +kernel
theorem d_Car_dig_22 : decode prog_2_method_6_code 22 = .ok (.imul, 1) := by decide +kernel
theorem d_Car_dig_23 : decode prog_2_method_6_code 23 = .ok (.isub, 1) := by decide +kernel
theorem d_Car_dig_24 : decode prog_2_method_6_code 24 = .ok (.invokestatic 41, 3) := by decide +kernel
theorem d_Car_dig_27 : decode prog_2_method_6_code 27 = .ok (.putfield 13, 3) := by decide +kernel
theorem d_Car_dig_30 : decode prog_2_method_6_code 30 = .ok (.return_, 1) := by decide +kernel
theorem d_Car_isOverTheRim_0 : decode prog_2_method_7_code 0 = .ok (.aload_n 0, 1) := by decide +kernel
theorem d_Car_isOverTheRim_1 : decode prog_2_method_7_code 1 = .ok (.getfield 16, 3) := by decide +kernel
theorem d_Car_isOverTheRim_4 : decode prog_2_method_7_code 4 = .ok (.aload_n 0, 1) := by decide +kernel
theorem d_Car_isOverTheRim_5 : decode prog_2_method_7_code 5 = .ok (.getfield 7, 3) := by decide +kernel
theorem d_Car_isOverTheRim_8 : decode prog_2_method_7_code 8 = .ok (.if_icmp .lt 7, 3) := by decide +kernel
theorem d_Car_isOverTheRim_11 : decode prog_2_method_7_code 11 = .ok (.iconst 1, 1) := by decide +kernel
theorem d_Car_isOverTheRim_12 : decode prog_2_method_7_code 12 = .ok (.goto 4, 3) := by decide +kernel
theorem d_Car_isOverTheRim_15 : decode prog_2_method_7_code 15 = .ok (.iconst 0, 1) := by decide +kernel
theorem d_Car_isOverTheRim_16 : decode prog_2_method_7_code 16 = .ok (.ireturn, 1) := by decide +kernel
theorem d_Car_go_0 : decode prog_2_method_8_code 0 = .ok (.iload_n 1, 1) := by decide +kernel
theorem d_Car_go_1 : decode prog_2_method_8_code 1 = .ok (.iload_n 2, 1) := by decide +kernel
theorem d_Car_go_2 : decode prog_2_method_8_code 2 = .ok (.if_icmp .le 7, 3) := by decide +kernel
theorem d_Car_go_5 : decode prog_2_method_8_code 5 = .ok (.iconst 1, 1) := by decide +kernel
theorem d_Car_go_6 : decode prog_2_method_8_code 6 = .ok (.goto 4, 3) := by decide +kernel
theorem d_Car_go_9 : decode prog_2_method_8_code 9 = .ok (.iconst 0, 1) := by decide +kernel
theorem d_Car_go_10 : decode prog_2_method_8_code 10 = .ok (.istore 5, 2) := by decide +kernel
theorem d_Car_go_12 : decode prog_2_method_8_code 12 = .ok (.iload 5, 2) := by decide +kernel
theorem d_Car_go_14 : decode prog_2_method_8_code 14 = .ok (.ifCond .eq 49, 3) := by decide +kernel
theorem d_Car_go_17 : decode prog_2_method_8_code 17 = .ok (.aload_n 0, 1) := by decide +kernel
theorem d_Car_go_18 : decode prog_2_method_8_code 18 = .ok (.bipush 99, 2) := by decide +kernel
theorem d_Car_go_20 : decode prog_2_method_8_code 20 = .ok (.aload_n 0, 1) := by decide +kernel
theorem d_Car_go_21 : decode prog_2_method_8_code 21 = .ok (.getfield 13, 3) := by decide +kernel
theorem d_Car_go_24 : decode prog_2_method_8_code 24 = .ok (.iload_n 1, 1) := by decide +kernel
theorem d_Car_go_25 : decode prog_2_method_8_code 25 = .ok (.iadd, 1) := by decide +kernel
theorem d_Car_go_26 : decode prog_2_method_8_code 26 = .ok (.iload_n 2, 1) := by decide +kernel
theorem d_Car_go_27 : decode prog_2_method_8_code 27 = .ok (.isub, 1) := by decide +kernel
theorem d_Car_go_28 : decode prog_2_method_8_code 28 = .ok (.invokestatic 47, 3) := by decide +kernel
theorem d_Car_go_31 : decode prog_2_method_8_code 31 = .ok (.putfield 13, 3) := by decide +kernel
theorem d_Car_go_34 : decode prog_2_method_8_code 34 = .ok (.aload_n 0, 1) := by decide +kernel
theorem d_Car_go_35 : decode prog_2_method_8_code 35 = .ok (.bipush 60, 2) := by decide +kernel
theorem d_Car_go_37 : decode prog_2_method_8_code 37 = .ok (.aload_n 0, 1) := by decide +kernel
theorem d_Car_go_38 : decode prog_2_method_8_code 38 = .ok (.getfield 7, 3) := by decide +kernel
theorem d_Car_go_41 : decode prog_2_method_8_code 41 = .ok (.iconst 1, 1) := by decide +kernel
theorem d_Car_go_42 : decode prog_2_method_8_code 42 = .ok (.iadd, 1) := by decide +kernel
theorem d_Car_go_43 : decode prog_2_method_8_code 43 = .ok (.invokestatic 47, 3) := by decide +kernel
theorem d_Car_go_46 : decode prog_2_method_8_code 46 = .ok (.putfield 7, 3) := by decide +kernel
theorem d_Car_go_49 : decode prog_2_method_8_code 49 = .ok (.aload_n 0, 1) := by decide +kernel
theorem d_Car_go_50 : decode prog_2_method_8_code 50 = .ok (.iconst 0, 1) := by decide +kernel
theorem d_Car_go_51 : decode prog_2_method_8_code 51 = .ok (.aload_n 0, 1) := by decide +kernel
theorem d_Car_go_52 : decode prog_2_method_8_code 52 = .ok (.getfield 22, 3) := by decide +kernel
theorem d_Car_go_55 : decode prog_2_method_8_code 55 = .ok (.iconst 1, 1) := by decide +kernel
theorem d_Car_go_56 : decode prog_2_method_8_code 56 = .ok (.isub, 1) := by decide +kernel
theorem d_Car_go_57 : decode prog_2_method_8_code 57 = .ok (.invokestatic 41, 3) := by decide +kernel
theorem d_Car_go_60 : decode prog_2_method_8_code 60 = .ok (.putfield 22, 3) := by decide +kernel
theorem d_Car_go_63 : decode prog_2_method_8_code 63 = .ok (.iload 5, 2) := by decide +kernel
theorem d_Car_go_65 : decode prog_2_method_8_code 65 = .ok (.ifCond .eq 7, 3) := by decide +kernel
theorem d_Car_go_68 : decode prog_2_method_8_code 68 = .ok (.iconst 0, 1) := by decide +kernel
theorem d_Car_go_69 : decode prog_2_method_8_code 69 = .ok (.goto 4, 3) := by decide +kernel
theorem d_Car_go_72 : decode prog_2_method_8_code 72 = .ok (.iload_n 1, 1) := by decide +kernel
theorem d_Car_go_73 : decode prog_2_method_8_code 73 = .ok (.istore 6, 2) := by decide +kernel
theorem d_Car_go_75 : decode prog_2_method_8_code 75 = .ok (.aload_n 0, 1) := by decide +kernel
theorem d_Car_go_76 : decode prog_2_method_8_code 76 = .ok (.iconst 0, 1) := by decide +kernel
theorem d_Car_go_77 : decode prog_2_method_8_code 77 = .ok (.bipush 99, 2) := by decide +kernel
theorem d_Car_go_79 : decode prog_2_method_8_code 79 = .ok (.aload_n 0, 1) := by decide +kernel
theorem d_Car_go_80 : decode prog_2_method_8_code 80 = .ok (.getfield 16, 3) := by decide +kernel
theorem d_Car_go_83 : decode prog_2_method_8_code 83 = .ok (.iload 6, 2) := by decide +kernel
theorem d_Car_go_85 : decode prog_2_method_8_code 85 = .ok (.iadd, 1) := by decide +kernel
theorem d_Car_go_86 : decode prog_2_method_8_code 86 = .ok (.iload_n 3, 1) := by decide +kernel
theorem d_Car_go_87 : decode prog_2_method_8_code 87 = .ok (.iadd, 1) := by decide +kernel
theorem d_Car_go_88 : decode prog_2_method_8_code 88 = .ok (.iload 4, 2) := by decide +kernel
theorem d_Car_go_90 : decode prog_2_method_8_code 90 = .ok (.isub, 1) := by decide +kernel
theorem d_Car_go_91 : decode prog_2_method_8_code 91 = .ok (.invokestatic 47, 3) := by decide +kernel
theorem d_Car_go_94 : decode prog_2_method_8_code 94 = .ok (.invokestatic 41, 3) := by decide +kernel
theorem d_Car_go_97 : decode prog_2_method_8_code 97 = .ok (.putfield 16, 3) := by decide +kernel
theorem d_Car_go_100 : decode prog_2_method_8_code 100 = .ok (.aload_n 0, 1) := by decide +kernel
theorem d_Car_go_101 : decode prog_2_method_8_code 101 = .ok (.iconst 1, 1) := by decide +kernel
theorem d_Car_go_102 : decode prog_2_method_8_code 102 = .ok (.aload_n 0, 1) := by decide +kernel
theorem d_Car_go_103 : decode prog_2_method_8_code 103 = .ok (.getfield 19, 3) := by decide +kernel
theorem d_Car_go_106 : decode prog_2_method_8_code 106 = .ok (.isub, 1) := by decide +kernel
theorem d_Car_go_107 : decode prog_2_method_8_code 107 = .ok (.putfield 19, 3) := by decide +kernel
theorem d_Car_go_110 : decode prog_2_method_8_code 110 = .ok (.aload_n 0, 1) := by decide +kernel
theorem d_Car_go_111 : decode prog_2_method_8_code 111 = .ok (.dup, 1) := by decide +kernel
theorem d_Car_go_112 : decode prog_2_method_8_code 112 = .ok (.getfield 25, 3) := by decide +kernel
theorem d_Car_go_115 : decode prog_2_method_8_code 115 = .ok (.iconst 1, 1) := by decide +kernel
theorem d_Car_go_116 : decode prog_2_method_8_code 116 = .ok (.iadd, 1) := by decide +kernel
theorem d_Car_go_117 : decode prog_2_method_8_code 117 = .ok (.putfield 25, 3) := by decide +kernel
theorem d_Car_go_120 : decode prog_2_method_8_code 120 = .ok (.aload_n 0, 1) := by decide +kernel
theorem d_Car_go_121 : decode prog_2_method_8_code 121 = .ok (.invokevirtual 50, 3) := by decide +kernel
theorem d_Car_go_124 : decode prog_2_method_8_code 124 = .ok (.ifCond .eq 24, 3) := by decide +kernel
theorem d_Car_go_127 : decode prog_2_method_8_code 127 = .ok (.aload_n 0, 1) := by decide +kernel
theorem d_Car_go_128 : decode prog_2_method_8_code 128 = .ok (.iconst 1, 1) := by decide +kernel
theorem d_Car_go_129 : decode prog_2_method_8_code 129 = .ok (.putfield 31, 3) := by decide +kernel
theorem d_Car_go_132 : decode prog_2_method_8_code 132 = .ok (.aload_n 0, 1) := by decide +kernel
theorem d_Car_go_133 : decode prog_2_method_8_code 133 = .ok (.sipush 9999, 3) := by decide +kernel
theorem d_Car_go_136 : decode prog_2_method_8_code 136 = .ok (.aload_n 0, 1) := by decide +kernel
theorem d_Car_go_137 : decode prog_2_method_8_code 137 = .ok (.getfield 28, 3) := by decide +kernel
theorem d_Car_go_140 : decode prog_2_method_8_code 140 = .ok (.iconst 1, 1) := by decide +kernel
theorem d_Car_go_141 : decode prog_2_method_8_code 141 = .ok (.iadd, 1) := by decide +kernel
theorem d_Car_go_142 : decode prog_2_method_8_code 142 = .ok (.invokestatic 47, 3) := by decide +kernel
theorem d_Car_go_145 : decode prog_2_method_8_code 145 = .ok (.putfield 28, 3) := by decide +kernel
theorem d_Car_go_148 : decode prog_2_method_8_code 148 = .ok (.iload 5, 2) := by decide +kernel
theorem d_Car_go_150 : decode prog_2_method_8_code 150 = .ok (.ireturn, 1) := by decide +kernel
theorem d_Car_copyFrom_0 : decode prog_2_method_9_code 0 = .ok (.aload_n 0, 1) := by decide +kernel
theorem d_Car_copyFrom_1 : decode prog_2_method_9_code 1 = .ok (.aload_n 1, 1) := by decide +kernel
theorem d_Car_copyFrom_2 : decode prog_2_method_9_code 2 = .ok (.getfield 7, 3) := by decide +kernel
theorem d_Car_copyFrom_5 : decode prog_2_method_9_code 5 = .ok (.putfield 7, 3) := by decide +kernel
theorem d_Car_copyFrom_8 : decode prog_2_method_9_code 8 = .ok (.aload_n 0, 1) := by decide +kernel
theorem d_Car_copyFrom_9 : decode prog_2_method_9_code 9 = .ok (.aload_n 1, 1) := by decide +kernel
theorem d_Car_copyFrom_10 : decode prog_2_method_9_code 10 = .ok (.getfield 13, 3) := by decide +kernel
theorem d_Car_copyFrom_13 : decode prog_2_method_9_code 13 = .ok (.putfield 13, 3) := by decide +kernel
theorem d_Car_copyFrom_16 : decode prog_2_method_9_code 16 = .ok (.aload_n 0, 1) := by decide +kernel
theorem d_Car_copyFrom_17 : decode prog_2_method_9_code 17 = .ok (.aload_n 1, 1) := by decide +kernel
theorem d_Car_copyFrom_18 : decode prog_2_method_9_code 18 = .ok (.getfield 16, 3) := by decide +kernel
theorem d_Car_copyFrom_21 : decode prog_2_method_9_code 21 = .ok (.putfield 16, 3) := by decide +kernel
theorem d_Car_copyFrom_24 : decode prog_2_method_9_code 24 = .ok (.aload_n 0, 1) := by decide +kernel
theorem d_Car_copyFrom_25 : decode prog_2_method_9_code 25 = .ok (.aload_n 1, 1) := by decide +kernel
theorem d_Car_copyFrom_26 : decode prog_2_method_9_code 26 = .ok (.getfield 19, 3) := by decide +kernel
theorem d_Car_copyFrom_29 : decode prog_2_method_9_code 29 = .ok (.putfield 19, 3) := by decide +kernel
theorem d_Car_copyFrom_32 : decode prog_2_method_9_code 32 = .ok (.aload_n 0, 1) := by decide +kernel
theorem d_Car_copyFrom_33 : decode prog_2_method_9_code 33 = .ok (.aload_n 1, 1) := by decide +kernel
theorem d_Car_copyFrom_34 : decode prog_2_method_9_code 34 = .ok (.getfield 22, 3) := by decide +kernel
theorem d_Car_copyFrom_37 : decode prog_2_method_9_code 37 = .ok (.putfield 22, 3) := by decide +kernel
theorem d_Car_copyFrom_40 : decode prog_2_method_9_code 40 = .ok (.aload_n 0, 1) := by decide +kernel
theorem d_Car_copyFrom_41 : decode prog_2_method_9_code 41 = .ok (.aload_n 1, 1) := by decide +kernel
theorem d_Car_copyFrom_42 : decode prog_2_method_9_code 42 = .ok (.getfield 25, 3) := by decide +kernel
theorem d_Car_copyFrom_45 : decode prog_2_method_9_code 45 = .ok (.putfield 25, 3) := by decide +kernel
theorem d_Car_copyFrom_48 : decode prog_2_method_9_code 48 = .ok (.aload_n 0, 1) := by decide +kernel
theorem d_Car_copyFrom_49 : decode prog_2_method_9_code 49 = .ok (.aload_n 1, 1) := by decide +kernel
theorem d_Car_copyFrom_50 : decode prog_2_method_9_code 50 = .ok (.getfield 28, 3) := by decide +kernel
theorem d_Car_copyFrom_53 : decode prog_2_method_9_code 53 = .ok (.putfield 28, 3) := by decide +kernel
theorem d_Car_copyFrom_56 : decode prog_2_method_9_code 56 = .ok (.aload_n 0, 1) := by decide +kernel
theorem d_Car_copyFrom_57 : decode prog_2_method_9_code 57 = .ok (.aload_n 1, 1) := by decide +kernel
theorem d_Car_copyFrom_58 : decode prog_2_method_9_code 58 = .ok (.getfield 31, 3) := by decide +kernel
theorem d_Car_copyFrom_61 : decode prog_2_method_9_code 61 = .ok (.putfield 31, 3) := by decide +kernel
theorem d_Car_copyFrom_64 : decode prog_2_method_9_code 64 = .ok (.return_, 1) := by decide +kernel
theorem d_Rows_init_0 : decode prog_8_method_1_code 0 = .ok (.aload_n 0, 1) := by decide +kernel
theorem d_Rows_init_1 : decode prog_8_method_1_code 1 = .ok (.invokespecial 3, 3) := by decide +kernel
theorem d_Rows_init_4 : decode prog_8_method_1_code 4 = .ok (.aload_n 0, 1) := by decide +kernel
theorem d_Rows_init_5 : decode prog_8_method_1_code 5 = .ok (.iconst 5, 1) := by decide +kernel
theorem d_Rows_init_6 : decode prog_8_method_1_code 6 = .ok (.anewarray 11, 3) := by decide +kernel
theorem d_Rows_init_9 : decode prog_8_method_1_code 9 = .ok (.putfield 13, 3) := by decide +kernel
theorem d_Rows_init_12 : decode prog_8_method_1_code 12 = .ok (.aload_n 0, 1) := by decide +kernel
theorem d_Rows_init_13 : decode prog_8_method_1_code 13 = .ok (.new 17, 3) := by decide +kernel
theorem d_Rows_init_16 : decode prog_8_method_1_code 16 = .ok (.dup, 1) := by decide +kernel
theorem d_Rows_init_17 : decode prog_8_method_1_code 17 = .ok (.iconst 3, 1) := by decide +kernel
theorem d_Rows_init_18 : decode prog_8_method_1_code 18 = .ok (.invokespecial 19, 3) := by decide +kernel
theorem d_Rows_init_21 : decode prog_8_method_1_code 21 = .ok (.putfield 22, 3) := by decide +kernel
theorem d_Rows_init_24 : decode prog_8_method_1_code 24 = .ok (.aload_n 0, 1) := by decide +kernel
theorem d_Rows_init_25 : decode prog_8_method_1_code 25 = .ok (.iconst 4, 1) := by decide +kernel
theorem d_Rows_init_26 : decode prog_8_method_1_code 26 = .ok (.newarray .int, 2) := by decide +kernel
theorem d_Rows_init_28 : decode prog_8_method_1_code 28 = .ok (.putfield 26, 3) := by decide +kernel
theorem d_Rows_init_31 : decode prog_8_method_1_code 31 = .ok (.aload_n 0, 1) := by decide +kernel
theorem d_Rows_init_32 : decode prog_8_method_1_code 32 = .ok (.iconst 4, 1) := by decide +kernel
theorem d_Rows_init_33 : decode prog_8_method_1_code 33 = .ok (.newarray .int, 2) := by decide +kernel
theorem d_Rows_init_35 : decode prog_8_method_1_code 35 = .ok (.putfield 30, 3) := by decide +kernel
theorem d_Rows_init_38 : decode prog_8_method_1_code 38 = .ok (.aload_n 0, 1) := by decide +kernel
theorem d_Rows_init_39 : decode prog_8_method_1_code 39 = .ok (.iconst 0, 1) := by decide +kernel
theorem d_Rows_init_40 : decode prog_8_method_1_code 40 = .ok (.putfield 33, 3) := by decide +kernel
theorem d_Rows_init_43 : decode prog_8_method_1_code 43 = .ok (.aload_n 0, 1) := by decide +kernel
theorem d_Rows_init_44 : decode prog_8_method_1_code 44 = .ok (.iconst 0, 1) := by decide +kernel
theorem d_Rows_init_45 : decode prog_8_method_1_code 45 = .ok (.putfield 37, 3) := by decide +kernel
theorem d_Rows_init_48 : decode prog_8_method_1_code 48 = .ok (.aload_n 0, 1) := by decide +kernel
theorem d_Rows_init_49 : decode prog_8_method_1_code 49 = .ok (.iconst 0, 1) := by decide +kernel
theorem d_Rows_init_50 : decode prog_8_method_1_code 50 = .ok (.putfield 40, 3) := by decide +kernel
theorem d_Rows_init_53 : decode prog_8_method_1_code 53 = .ok (.aload_n 0, 1) := by decide +kernel
theorem d_Rows_init_54 : decode prog_8_method_1_code 54 = .ok (.iconst 0, 1) := by decide +kernel
theorem d_Rows_init_55 : decode prog_8_method_1_code 55 = .ok (.putfield 43, 3) := by decide +kernel
theorem d_Rows_init_58 : decode prog_8_method_1_code 58 = .ok (.aload_n 0, 1) := by decide +kernel
theorem d_Rows_init_59 : decode prog_8_method_1_code 59 = .ok (.iconst 0, 1) := by decide +kernel
theorem d_Rows_init_60 : decode prog_8_method_1_code 60 = .ok (.putfield 46, 3) := by decide +kernel
theorem d_Rows_init_63 : decode prog_8_method_1_code 63 = .ok (.iconst 0, 1) := by decide +kernel
theorem d_Rows_init_64 : decode prog_8_method_1_code 64 = .ok (.istore_n 1, 1) := by decide +kernel
theorem d_Rows_init_65 : decode prog_8_method_1_code 65 = .ok (.iload_n 1, 1) := by decide +kernel
theorem d_Rows_init_66 : decode prog_8_method_1_code 66 = .ok (.aload_n 0, 1) := by decide +kernel
theorem d_Rows_init_67 : decode prog_8_method_1_code 67 = .ok (.getfield 13, 3) := by decide +kernel
theorem d_Rows_init_70 : decode prog_8_method_1_code 70 = .ok (.arraylength, 1) := by decide +kernel
theorem d_Rows_init_71 : decode prog_8_method_1_code 71 = .ok (.if_icmp .ge 22, 3) := by decide +kernel
theorem d_Rows_init_74 : decode prog_8_method_1_code 74 = .ok (.aload_n 0, 1) := by decide +kernel
theorem d_Rows_init_75 : decode prog_8_method_1_code 75 = .ok (.getfield 13, 3) := by decide +kernel
theorem d_Rows_init_78 : decode prog_8_method_1_code 78 = .ok (.iload_n 1, 1) := by decide +kernel
theorem d_Rows_init_79 : decode prog_8_method_1_code 79 = .ok (.new 11, 3) := by decide +kernel
theorem d_Rows_init_82 : decode prog_8_method_1_code 82 = .ok (.dup, 1) := by decide +kernel
theorem d_Rows_init_83 : decode prog_8_method_1_code 83 = .ok (.invokespecial 49, 3) := by decide +kernel
theorem d_Rows_init_86 : decode prog_8_method_1_code 86 = .ok (.aastore, 1) := by decide +kernel
theorem d_Rows_init_87 : decode prog_8_method_1_code 87 = .ok (.iinc 1 1, 3) := by decide +kernel
theorem d_Rows_init_90 : decode prog_8_method_1_code 90 = .ok (.goto (-25), 3) := by decide +kernel
theorem d_Rows_init_93 : decode prog_8_method_1_code 93 = .ok (.return_, 1) := by decide +kernel
theorem d_Rows_seekBest_0 : decode prog_8_method_2_code 0 = .ok (.aload_n 0, 1) := by decide +kernel
theorem d_Rows_seekBest_1 : decode prog_8_method_2_code 1 = .ok (.iload_n 2, 1) := by decide +kernel
theorem d_Rows_seekBest_2 : decode prog_8_method_2_code 2 = .ok (.iconst 1, 1) := by decide +kernel
theorem d_Rows_seekBest_3 : decode prog_8_method_2_code 3 = .ok (.iadd, 1) := by decide +kernel
theorem d_Rows_seekBest_4 : decode prog_8_method_2_code 4 = .ok (.putfield 40, 3) := by decide +kernel
theorem d_Rows_seekBest_7 : decode prog_8_method_2_code 7 = .ok (.aload_n 0, 1) := by decide +kernel
theorem d_Rows_seekBest_8 : decode prog_8_method_2_code 8 = .ok (.sipush (-1000), 3) := by decide +kernel
theorem d_Rows_seekBest_11 : decode prog_8_method_2_code 11 = .ok (.putfield 43, 3) := by decide +kernel
theorem d_Rows_seekBest_14 : decode prog_8_method_2_code 14 = .ok (.aload_n 0, 1) := by decide +kernel
theorem d_Rows_seekBest_15 : decode prog_8_method_2_code 15 = .ok (.aload_n 1, 1) := by decide +kernel
theorem d_Rows_seekBest_16 : decode prog_8_method_2_code 16 = .ok (.iconst 0, 1) := by decide +kernel
theorem d_Rows_seekBest_17 : decode prog_8_method_2_code 17 = .ok (.iload_n 2, 1) := by decide +kernel
theorem d_Rows_seekBest_18 : decode prog_8_method_2_code 18 = .ok (.invokevirtual 50, 3) := by decide +kernel
theorem d_Rows_seekBest_21 : decode prog_8_method_2_code 21 = .ok (.return_, 1) := by decide +kernel
theorem d_Rows_bestSwings_0 : decode prog_8_method_3_code 0 = .ok (.aload_n 0, 1) := by decide +kernel
theorem d_Rows_bestSwings_1 : decode prog_8_method_3_code 1 = .ok (.getfield 40, 3) := by decide +kernel
theorem d_Rows_bestSwings_4 : decode prog_8_method_3_code 4 = .ok (.aload_n 0, 1) := by decide +kernel
theorem d_Rows_bestSwings_5 : decode prog_8_method_3_code 5 = .ok (.getfield 37, 3) := by decide +kernel
theorem d_Rows_bestSwings_8 : decode prog_8_method_3_code 8 = .ok (.if_icmp .le 7, 3) := by decide +kernel
theorem d_Rows_bestSwings_11 : decode prog_8_method_3_code 11 = .ok (.iconst 0, 1) := by decide +kernel
theorem d_Rows_bestSwings_12 : decode prog_8_method_3_code 12 = .ok (.goto 7, 3) := by decide +kernel
theorem d_Rows_bestSwings_15 : decode prog_8_method_3_code 15 = .ok (.aload_n 0, 1) := by decide +kernel
theorem d_Rows_bestSwings_16 : decode prog_8_method_3_code 16 = .ok (.getfield 40, 3) := by decide +kernel
theorem d_Rows_bestSwings_19 : decode prog_8_method_3_code 19 = .ok (.ireturn, 1) := by decide +kernel
theorem d_Rows_bestOver_0 : decode prog_8_method_4_code 0 = .ok (.aload_n 0, 1) := by decide +kernel
theorem d_Rows_bestOver_1 : decode prog_8_method_4_code 1 = .ok (.getfield 43, 3) := by decide +kernel
theorem d_Rows_bestOver_4 : decode prog_8_method_4_code 4 = .ok (.ireturn, 1) := by decide +kernel
theorem d_Rows_keptGas_0 : decode prog_8_method_5_code 0 = .ok (.iload_n 1, 1) := by decide +kernel
theorem d_Rows_keptGas_1 : decode prog_8_method_5_code 1 = .ok (.ifCond .lt 21, 3) := by decide +kernel
theorem d_Rows_keptGas_4 : decode prog_8_method_5_code 4 = .ok (.iload_n 1, 1) := by decide +kernel
theorem d_Rows_keptGas_5 : decode prog_8_method_5_code 5 = .ok (.aload_n 0, 1) := by decide +kernel
theorem d_Rows_keptGas_6 : decode prog_8_method_5_code 6 = .ok (.getfield 30, 3) := by decide +kernel
theorem d_Rows_keptGas_9 : decode prog_8_method_5_code 9 = .ok (.arraylength, 1) := by decide +kernel
theorem d_Rows_keptGas_10 : decode prog_8_method_5_code 10 = .ok (.if_icmp .ge 12, 3) := by decide +kernel
theorem d_Rows_keptGas_13 : decode prog_8_method_5_code 13 = .ok (.aload_n 0, 1) := by decide +kernel
theorem d_Rows_keptGas_14 : decode prog_8_method_5_code 14 = .ok (.getfield 30, 3) := by decide +kernel
theorem d_Rows_keptGas_17 : decode prog_8_method_5_code 17 = .ok (.iload_n 1, 1) := by decide +kernel
theorem d_Rows_keptGas_18 : decode prog_8_method_5_code 18 = .ok (.iaload, 1) := by decide +kernel
theorem d_Rows_keptGas_19 : decode prog_8_method_5_code 19 = .ok (.goto 4, 3) := by decide +kernel
theorem d_Rows_keptGas_22 : decode prog_8_method_5_code 22 = .ok (.iconst 0, 1) := by decide +kernel
theorem d_Rows_keptGas_23 : decode prog_8_method_5_code 23 = .ok (.ireturn, 1) := by decide +kernel
theorem d_Rows_seekFits_0 : decode prog_8_method_6_code 0 = .ok (.aload_n 0, 1) := by decide +kernel
theorem d_Rows_seekFits_1 : decode prog_8_method_6_code 1 = .ok (.getfield 22, 3) := by decide +kernel
theorem d_Rows_seekFits_4 : decode prog_8_method_6_code 4 = .ok (.invokevirtual 54, 3) := by decide +kernel
theorem d_Rows_seekFits_7 : decode prog_8_method_6_code 7 = .ok (.iconst 0, 1) := by decide +kernel
theorem d_Rows_seekFits_8 : decode prog_8_method_6_code 8 = .ok (.istore_n 3, 1) := by decide +kernel
theorem d_Rows_seekFits_9 : decode prog_8_method_6_code 9 = .ok (.iload_n 3, 1) := by decide +kernel
theorem d_Rows_seekFits_10 : decode prog_8_method_6_code 10 = .ok (.aload_n 2, 1) := by decide +kernel
theorem d_Rows_seekFits_11 : decode prog_8_method_6_code 11 = .ok (.invokevirtual 57, 3) := by decide +kernel
theorem d_Rows_seekFits_14 : decode prog_8_method_6_code 14 = .ok (.if_icmp .ge 21, 3) := by decide +kernel
theorem d_Rows_seekFits_17 : decode prog_8_method_6_code 17 = .ok (.aload_n 0, 1) := by decide +kernel
theorem d_Rows_seekFits_18 : decode prog_8_method_6_code 18 = .ok (.getfield 22, 3) := by decide +kernel
theorem d_Rows_seekFits_21 : decode prog_8_method_6_code 21 = .ok (.aload_n 2, 1) := by decide +kernel
theorem d_Rows_seekFits_22 : decode prog_8_method_6_code 22 = .ok (.iload_n 3, 1) := by decide +kernel
theorem d_Rows_seekFits_23 : decode prog_8_method_6_code 23 = .ok (.invokevirtual 63, 3) := by decide +kernel
theorem d_Rows_seekFits_26 : decode prog_8_method_6_code 26 = .ok (.invokevirtual 67, 3) := by decide +kernel
theorem d_Rows_seekFits_29 : decode prog_8_method_6_code 29 = .ok (.iinc 3 1, 3) := by decide +kernel
theorem d_Rows_seekFits_32 : decode prog_8_method_6_code 32 = .ok (.goto (-23), 3) := by decide +kernel
theorem d_Rows_seekFits_35 : decode prog_8_method_6_code 35 = .ok (.aload_n 0, 1) := by decide +kernel
theorem d_Rows_seekFits_36 : decode prog_8_method_6_code 36 = .ok (.aload_n 1, 1) := by decide +kernel
theorem d_Rows_seekFits_37 : decode prog_8_method_6_code 37 = .ok (.iconst 1, 1) := by decide +kernel
theorem d_Rows_seekFits_38 : decode prog_8_method_6_code 38 = .ok (.aload_n 2, 1) := by decide +kernel
theorem d_Rows_seekFits_39 : decode prog_8_method_6_code 39 = .ok (.invokevirtual 57, 3) := by decide +kernel
theorem d_Rows_seekFits_42 : decode prog_8_method_6_code 42 = .ok (.invokevirtual 50, 3) := by decide +kernel
theorem d_Rows_seekFits_45 : decode prog_8_method_6_code 45 = .ok (.aload_n 0, 1) := by decide +kernel
theorem d_Rows_seekFits_46 : decode prog_8_method_6_code 46 = .ok (.getfield 46, 3) := by decide +kernel
theorem d_Rows_seekFits_49 : decode prog_8_method_6_code 49 = .ok (.ireturn, 1) := by decide +kernel
theorem d_Rows_countOuts_0 : decode prog_8_method_7_code 0 = .ok (.aload_n 0, 1) := by decide +kernel
theorem d_Rows_countOuts_1 : decode prog_8_method_7_code 1 = .ok (.aload_n 1, 1) := by decide +kernel
theorem d_Rows_countOuts_2 : decode prog_8_method_7_code 2 = .ok (.iconst 2, 1) := by decide +kernel
theorem d_Rows_countOuts_3 : decode prog_8_method_7_code 3 = .ok (.iload_n 2, 1) := by decide +kernel
theorem d_Rows_countOuts_4 : decode prog_8_method_7_code 4 = .ok (.invokevirtual 50, 3) := by decide +kernel
theorem d_Rows_countOuts_7 : decode prog_8_method_7_code 7 = .ok (.aload_n 0, 1) := by decide +kernel
theorem d_Rows_countOuts_8 : decode prog_8_method_7_code 8 = .ok (.getfield 46, 3) := by decide +kernel
theorem d_Rows_countOuts_11 : decode prog_8_method_7_code 11 = .ok (.ireturn, 1) := by decide +kernel
theorem d_Rows_rowsOf_0 : decode prog_8_method_8_code 0 = .ok (.iconst 1, 1) := by decide +kernel
theorem d_Rows_rowsOf_1 : decode prog_8_method_8_code 1 = .ok (.istore_n 1, 1) := by decide +kernel
theorem d_Rows_rowsOf_2 : decode prog_8_method_8_code 2 = .ok (.iconst 0, 1) := by decide +kernel
theorem d_Rows_rowsOf_3 : decode prog_8_method_8_code 3 = .ok (.istore_n 2, 1) := by decide +kernel
theorem d_Rows_rowsOf_4 : decode prog_8_method_8_code 4 = .ok (.iload_n 2, 1) := by decide +kernel
theorem d_Rows_rowsOf_5 : decode prog_8_method_8_code 5 = .ok (.iload_n 0, 1) := by decide +kernel
theorem d_Rows_rowsOf_6 : decode prog_8_method_8_code 6 = .ok (.if_icmp .ge 19, 3) := by decide +kernel
theorem d_Rows_rowsOf_9 : decode prog_8_method_8_code 9 = .ok (.iload_n 2, 1) := by decide +kernel
theorem d_Rows_rowsOf_10 : decode prog_8_method_8_code 10 = .ok (.iconst 4, 1) := by decide +kernel
theorem d_Rows_rowsOf_11 : decode prog_8_method_8_code 11 = .ok (.if_icmp .ge 14, 3) := by decide +kernel
theorem d_Rows_rowsOf_14 : decode prog_8_method_8_code 14 = .ok (.iload_n 1, 1) := by decide +kernel
theorem d_Rows_rowsOf_15 : decode prog_8_method_8_code 15 = .ok (.bipush 10, 2) := by decide +kernel
theorem d_Rows_rowsOf_17 : decode prog_8_method_8_code 17 = .ok (.imul, 1) := by decide +kernel
theorem d_Rows_rowsOf_18 : decode prog_8_method_8_code 18 = .ok (.istore_n 1, 1) := by decide +kernel
theorem d_Rows_rowsOf_19 : decode prog_8_method_8_code 19 = .ok (.iinc 2 1, 3) := by decide +kernel
theorem d_Rows_rowsOf_22 : decode prog_8_method_8_code 22 = .ok (.goto (-18), 3) := by decide +kernel
theorem d_Rows_rowsOf_25 : decode prog_8_method_8_code 25 = .ok (.iload_n 1, 1) := by decide +kernel
theorem d_Rows_rowsOf_26 : decode prog_8_method_8_code 26 = .ok (.ireturn, 1) := by decide +kernel
theorem d_Rows_tryAll_0 : decode prog_8_method_9_code 0 = .ok (.aload_n 0, 1) := by decide +kernel
theorem d_Rows_tryAll_1 : decode prog_8_method_9_code 1 = .ok (.iload_n 2, 1) := by decide +kernel
theorem d_Rows_tryAll_2 : decode prog_8_method_9_code 2 = .ok (.putfield 33, 3) := by decide +kernel
theorem d_Rows_tryAll_5 : decode prog_8_method_9_code 5 = .ok (.aload_n 0, 1) := by decide +kernel
theorem d_Rows_tryAll_6 : decode prog_8_method_9_code 6 = .ok (.iload_n 3, 1) := by decide +kernel
theorem d_Rows_tryAll_7 : decode prog_8_method_9_code 7 = .ok (.putfield 37, 3) := by decide +kernel
theorem d_Rows_tryAll_10 : decode prog_8_method_9_code 10 = .ok (.aload_n 0, 1) := by decide +kernel
theorem d_Rows_tryAll_11 : decode prog_8_method_9_code 11 = .ok (.iconst 0, 1) := by decide +kernel
theorem d_Rows_tryAll_12 : decode prog_8_method_9_code 12 = .ok (.putfield 46, 3) := by decide +kernel
theorem d_Rows_tryAll_15 : decode prog_8_method_9_code 15 = .ok (.aload_n 0, 1) := by decide +kernel
theorem d_Rows_tryAll_16 : decode prog_8_method_9_code 16 = .ok (.iconst 0, 1) := by decide +kernel
theorem d_Rows_tryAll_17 : decode prog_8_method_9_code 17 = .ok (.invokevirtual 70, 3) := by decide +kernel
theorem d_Rows_tryAll_20 : decode prog_8_method_9_code 20 = .ok (.astore 4, 2) := by decide +kernel
theorem d_Rows_tryAll_22 : decode prog_8_method_9_code 22 = .ok (.aload 4, 2) := by decide +kernel
theorem d_Rows_tryAll_24 : decode prog_8_method_9_code 24 = .ok (.ifnull 28, 3) := by decide +kernel
theorem d_Rows_tryAll_27 : decode prog_8_method_9_code 27 = .ok (.aload_n 1, 1) := by decide +kernel
theorem d_Rows_tryAll_28 : decode prog_8_method_9_code 28 = .ok (.getfield 74, 3) := by decide +kernel
theorem d_Rows_tryAll_31 : decode prog_8_method_9_code 31 = .ok (.getfield 80, 3) := by decide +kernel
theorem d_Rows_tryAll_34 : decode prog_8_method_9_code 34 = .ok (.ifCond .ne 18, 3) := by decide +kernel
theorem d_Rows_tryAll_37 : decode prog_8_method_9_code 37 = .ok (.aload 4, 2) := by decide +kernel
theorem d_Rows_tryAll_39 : decode prog_8_method_9_code 39 = .ok (.aload_n 1, 1) := by decide +kernel
theorem d_Rows_tryAll_40 : decode prog_8_method_9_code 40 = .ok (.getfield 74, 3) := by decide +kernel
theorem d_Rows_tryAll_43 : decode prog_8_method_9_code 43 = .ok (.invokevirtual 84, 3) := by decide +kernel
theorem d_Rows_tryAll_46 : decode prog_8_method_9_code 46 = .ok (.aload_n 0, 1) := by decide +kernel
theorem d_Rows_tryAll_47 : decode prog_8_method_9_code 47 = .ok (.aload_n 1, 1) := by decide +kernel
theorem d_Rows_tryAll_48 : decode prog_8_method_9_code 48 = .ok (.iconst 0, 1) := by decide +kernel
theorem d_Rows_tryAll_49 : decode prog_8_method_9_code 49 = .ok (.invokevirtual 88, 3) := by decide +kernel
theorem d_Rows_tryAll_52 : decode prog_8_method_9_code 52 = .ok (.return_, 1) := by decide +kernel
theorem d_Rows_tryFrom_0 : decode prog_8_method_10_code 0 = .ok (.aload_n 0, 1) := by decide +kernel
theorem d_Rows_tryFrom_1 : decode prog_8_method_10_code 1 = .ok (.iload_n 2, 1) := by decide +kernel
theorem d_Rows_tryFrom_2 : decode prog_8_method_10_code 2 = .ok (.invokevirtual 70, 3) := by decide +kernel
theorem d_Rows_tryFrom_5 : decode prog_8_method_10_code 5 = .ok (.astore_n 3, 1) := by decide +kernel
theorem d_Rows_tryFrom_6 : decode prog_8_method_10_code 6 = .ok (.aload_n 0, 1) := by decide +kernel
theorem d_Rows_tryFrom_7 : decode prog_8_method_10_code 7 = .ok (.iload_n 2, 1) := by decide +kernel
theorem d_Rows_tryFrom_8 : decode prog_8_method_10_code 8 = .ok (.iconst 1, 1) := by decide +kernel
theorem d_Rows_tryFrom_9 : decode prog_8_method_10_code 9 = .ok (.iadd, 1) := by decide +kernel
theorem d_Rows_tryFrom_10 : decode prog_8_method_10_code 10 = .ok (.invokevirtual 70, 3) := by decide +kernel
theorem d_Rows_tryFrom_13 : decode prog_8_method_10_code 13 = .ok (.astore 4, 2) := by decide +kernel
theorem d_Rows_tryFrom_15 : decode prog_8_method_10_code 15 = .ok (.aload_n 3, 1) := by decide +kernel
theorem d_Rows_tryFrom_16 : decode prog_8_method_10_code 16 = .ok (.ifnull 8, 3) := by decide +kernel
theorem d_Rows_tryFrom_19 : decode prog_8_method_10_code 19 = .ok (.aload 4, 2) := by decide +kernel
theorem d_Rows_tryFrom_21 : decode prog_8_method_10_code 21 = .ok (.ifnonnull 4, 3) := by decide +kernel
theorem d_Rows_tryFrom_24 : decode prog_8_method_10_code 24 = .ok (.return_, 1) := by decide +kernel
theorem d_Rows_tryFrom_25 : decode prog_8_method_10_code 25 = .ok (.aload_n 1, 1) := by decide +kernel
theorem d_Rows_tryFrom_26 : decode prog_8_method_10_code 26 = .ok (.aload_n 3, 1) := by decide +kernel
theorem d_Rows_tryFrom_27 : decode prog_8_method_10_code 27 = .ok (.bipush 63, 2) := by decide +kernel
theorem d_Rows_tryFrom_29 : decode prog_8_method_10_code 29 = .ok (.invokevirtual 94, 3) := by decide +kernel
theorem d_Rows_tryFrom_32 : decode prog_8_method_10_code 32 = .ok (.istore 5, 2) := by decide +kernel
theorem d_Rows_tryFrom_34 : decode prog_8_method_10_code 34 = .ok (.aload_n 1, 1) := by decide +kernel
theorem d_Rows_tryFrom_35 : decode prog_8_method_10_code 35 = .ok (.aload_n 3, 1) := by decide +kernel
theorem d_Rows_tryFrom_36 : decode prog_8_method_10_code 36 = .ok (.bipush 63, 2) := by decide +kernel
theorem d_Rows_tryFrom_38 : decode prog_8_method_10_code 38 = .ok (.invokevirtual 98, 3) := by decide +kernel
theorem d_Rows_tryFrom_41 : decode prog_8_method_10_code 41 = .ok (.istore 6, 2) := by decide +kernel
theorem d_Rows_tryFrom_43 : decode prog_8_method_10_code 43 = .ok (.aload_n 1, 1) := by decide +kernel
theorem d_Rows_tryFrom_44 : decode prog_8_method_10_code 44 = .ok (.aload_n 3, 1) := by decide +kernel
theorem d_Rows_tryFrom_45 : decode prog_8_method_10_code 45 = .ok (.invokevirtual 101, 3) := by decide +kernel
theorem d_Rows_tryFrom_48 : decode prog_8_method_10_code 48 = .ok (.istore 7, 2) := by decide +kernel
theorem d_Rows_tryFrom_50 : decode prog_8_method_10_code 50 = .ok (.iconst 0, 1) := by decide +kernel
theorem d_Rows_tryFrom_51 : decode prog_8_method_10_code 51 = .ok (.istore 8, 2) := by decide +kernel
theorem d_Rows_tryFrom_53 : decode prog_8_method_10_code 53 = .ok (.iload 8, 2) := by decide +kernel
theorem d_Rows_tryFrom_55 : decode prog_8_method_10_code 55 = .ok (.bipush 9, 2) := by decide +kernel
theorem d_Rows_tryFrom_57 : decode prog_8_method_10_code 57 = .ok (.if_icmp .gt 72, 3) := by decide +kernel
theorem d_Rows_tryFrom_60 : decode prog_8_method_10_code 60 = .ok (.aload 4, 2) := by decide +kernel
theorem d_Rows_tryFrom_62 : decode prog_8_method_10_code 62 = .ok (.aload_n 3, 1) := by decide +kernel
theorem d_Rows_tryFrom_63 : decode prog_8_method_10_code 63 = .ok (.invokevirtual 84, 3) := by decide +kernel
theorem d_Rows_tryFrom_66 : decode prog_8_method_10_code 66 = .ok (.aload 4, 2) := by decide +kernel
theorem d_Rows_tryFrom_68 : decode prog_8_method_10_code 68 = .ok (.iload 8, 2) := by decide +kernel
theorem d_Rows_tryFrom_70 : decode prog_8_method_10_code 70 = .ok (.iload 5, 2) := by decide +kernel
theorem d_Rows_tryFrom_72 : decode prog_8_method_10_code 72 = .ok (.iload 6, 2) := by decide +kernel
theorem d_Rows_tryFrom_74 : decode prog_8_method_10_code 74 = .ok (.iload 7, 2) := by decide +kernel
theorem d_Rows_tryFrom_76 : decode prog_8_method_10_code 76 = .ok (.invokevirtual 105, 3) := by decide +kernel
theorem d_Rows_tryFrom_79 : decode prog_8_method_10_code 79 = .ok (.pop, 1) := by decide +kernel
theorem d_Rows_tryFrom_80 : decode prog_8_method_10_code 80 = .ok (.aload_n 0, 1) := by decide +kernel
theorem d_Rows_tryFrom_81 : decode prog_8_method_10_code 81 = .ok (.iload_n 2, 1) := by decide +kernel
theorem d_Rows_tryFrom_82 : decode prog_8_method_10_code 82 = .ok (.iload 8, 2) := by decide +kernel
theorem d_Rows_tryFrom_84 : decode prog_8_method_10_code 84 = .ok (.invokevirtual 109, 3) := by decide +kernel
theorem d_Rows_tryFrom_87 : decode prog_8_method_10_code 87 = .ok (.aload_n 0, 1) := by decide +kernel
theorem d_Rows_tryFrom_88 : decode prog_8_method_10_code 88 = .ok (.iload_n 2, 1) := by decide +kernel
theorem d_Rows_tryFrom_89 : decode prog_8_method_10_code 89 = .ok (.aload 4, 2) := by decide +kernel
theorem d_Rows_tryFrom_91 : decode prog_8_method_10_code 91 = .ok (.invokevirtual 113, 3) := by decide +kernel
theorem d_Rows_tryFrom_94 : decode prog_8_method_10_code 94 = .ok (.ifCond .eq 29, 3) := by decide +kernel
theorem d_Rows_tryFrom_97 : decode prog_8_method_10_code 97 = .ok (.aload 4, 2) := by decide +kernel
theorem d_Rows_tryFrom_99 : decode prog_8_method_10_code 99 = .ok (.getfield 80, 3) := by decide +kernel
theorem d_Rows_tryFrom_102 : decode prog_8_method_10_code 102 = .ok (.ifCond .ne 21, 3) := by decide +kernel
theorem d_Rows_tryFrom_105 : decode prog_8_method_10_code 105 = .ok (.iload_n 2, 1) := by decide +kernel
theorem d_Rows_tryFrom_106 : decode prog_8_method_10_code 106 = .ok (.iconst 1, 1) := by decide +kernel
theorem d_Rows_tryFrom_107 : decode prog_8_method_10_code 107 = .ok (.iadd, 1) := by decide +kernel
theorem d_Rows_tryFrom_108 : decode prog_8_method_10_code 108 = .ok (.aload_n 0, 1) := by decide +kernel
theorem d_Rows_tryFrom_109 : decode prog_8_method_10_code 109 = .ok (.getfield 37, 3) := by decide +kernel
theorem d_Rows_tryFrom_112 : decode prog_8_method_10_code 112 = .ok (.if_icmp .ge 11, 3) := by decide +kernel
theorem d_Rows_tryFrom_115 : decode prog_8_method_10_code 115 = .ok (.aload_n 0, 1) := by decide +kernel
theorem d_Rows_tryFrom_116 : decode prog_8_method_10_code 116 = .ok (.aload_n 1, 1) := by decide +kernel
theorem d_Rows_tryFrom_117 : decode prog_8_method_10_code 117 = .ok (.iload_n 2, 1) := by decide +kernel
theorem d_Rows_tryFrom_118 : decode prog_8_method_10_code 118 = .ok (.iconst 1, 1) := by decide +kernel
theorem d_Rows_tryFrom_119 : decode prog_8_method_10_code 119 = .ok (.iadd, 1) := by decide +kernel
theorem d_Rows_tryFrom_120 : decode prog_8_method_10_code 120 = .ok (.invokevirtual 88, 3) := by decide +kernel
theorem d_Rows_tryFrom_123 : decode prog_8_method_10_code 123 = .ok (.iinc 8 1, 3) := by decide +kernel
theorem d_Rows_tryFrom_126 : decode prog_8_method_10_code 126 = .ok (.goto (-73), 3) := by decide +kernel
theorem d_Rows_tryFrom_129 : decode prog_8_method_10_code 129 = .ok (.return_, 1) := by decide +kernel
theorem d_Rows_goesOn_0 : decode prog_8_method_11_code 0 = .ok (.aload_n 0, 1) := by decide +kernel
theorem d_Rows_goesOn_1 : decode prog_8_method_11_code 1 = .ok (.getfield 33, 3) := by decide +kernel
theorem d_Rows_goesOn_4 : decode prog_8_method_11_code 4 = .ok (.lookupswitch 42 #[(1, 28), (2, 35)], 28) := by decide +kernel
theorem d_Rows_goesOn_32 : decode prog_8_method_11_code 32 = .ok (.aload_n 0, 1) := by decide +kernel
theorem d_Rows_goesOn_33 : decode prog_8_method_11_code 33 = .ok (.iload_n 1, 1) := by decide +kernel
theorem d_Rows_goesOn_34 : decode prog_8_method_11_code 34 = .ok (.aload_n 2, 1) := by decide +kernel
theorem d_Rows_goesOn_35 : decode prog_8_method_11_code 35 = .ok (.invokevirtual 117, 3) := by decide +kernel
theorem d_Rows_goesOn_38 : decode prog_8_method_11_code 38 = .ok (.ireturn, 1) := by decide +kernel
theorem d_Rows_goesOn_39 : decode prog_8_method_11_code 39 = .ok (.aload_n 0, 1) := by decide +kernel
theorem d_Rows_goesOn_40 : decode prog_8_method_11_code 40 = .ok (.iload_n 1, 1) := by decide +kernel
theorem d_Rows_goesOn_41 : decode prog_8_method_11_code 41 = .ok (.aload_n 2, 1) := by decide +kernel
theorem d_Rows_goesOn_42 : decode prog_8_method_11_code 42 = .ok (.invokevirtual 120, 3) := by decide +kernel
theorem d_Rows_goesOn_45 : decode prog_8_method_11_code 45 = .ok (.ireturn, 1) := by decide +kernel
theorem d_Rows_goesOn_46 : decode prog_8_method_11_code 46 = .ok (.aload_n 0, 1) := by decide +kernel
theorem d_Rows_goesOn_47 : decode prog_8_method_11_code 47 = .ok (.iload_n 1, 1) := by decide +kernel
theorem d_Rows_goesOn_48 : decode prog_8_method_11_code 48 = .ok (.aload_n 2, 1) := by decide +kernel
theorem d_Rows_goesOn_49 : decode prog_8_method_11_code 49 = .ok (.invokevirtual 123, 3) := by decide +kernel
theorem d_Rows_goesOn_52 : decode prog_8_method_11_code 52 = .ok (.ireturn, 1) := by decide +kernel
theorem d_Rows_canBeBetter_0 : decode prog_8_method_12_code 0 = .ok (.iload_n 1, 1) := by decide +kernel
theorem d_Rows_canBeBetter_1 : decode prog_8_method_12_code 1 = .ok (.iconst 1, 1) := by decide +kernel
theorem d_Rows_canBeBetter_2 : decode prog_8_method_12_code 2 = .ok (.iadd, 1) := by decide +kernel
theorem d_Rows_canBeBetter_3 : decode prog_8_method_12_code 3 = .ok (.istore_n 3, 1) := by decide +kernel
theorem d_Rows_canBeBetter_4 : decode prog_8_method_12_code 4 = .ok (.aload_n 2, 1) := by decide +kernel
theorem d_Rows_canBeBetter_5 : decode prog_8_method_12_code 5 = .ok (.getfield 126, 3) := by decide +kernel
theorem d_Rows_canBeBetter_8 : decode prog_8_method_12_code 8 = .ok (.aload_n 2, 1) := by decide +kernel
theorem d_Rows_canBeBetter_9 : decode prog_8_method_12_code 9 = .ok (.getfield 129, 3) := by decide +kernel
theorem d_Rows_canBeBetter_12 : decode prog_8_method_12_code 12 = .ok (.isub, 1) := by decide +kernel
theorem d_Rows_canBeBetter_13 : decode prog_8_method_12_code 13 = .ok (.istore 4, 2) := by decide +kernel
theorem d_Rows_canBeBetter_15 : decode prog_8_method_12_code 15 = .ok (.aload_n 2, 1) := by decide +kernel
theorem d_Rows_canBeBetter_16 : decode prog_8_method_12_code 16 = .ok (.getfield 80, 3) := by decide +kernel
theorem d_Rows_canBeBetter_19 : decode prog_8_method_12_code 19 = .ok (.ifCond .eq 15, 3) := by decide +kernel
theorem d_Rows_canBeBetter_22 : decode prog_8_method_12_code 22 = .ok (.iload_n 3, 1) := by decide +kernel
theorem d_Rows_canBeBetter_23 : decode prog_8_method_12_code 23 = .ok (.aload_n 0, 1) := by decide +kernel
theorem d_Rows_canBeBetter_24 : decode prog_8_method_12_code 24 = .ok (.getfield 40, 3) := by decide +kernel
theorem d_Rows_canBeBetter_27 : decode prog_8_method_12_code 27 = .ok (.if_icmp .ge 7, 3) := by decide +kernel
theorem d_Rows_canBeBetter_30 : decode prog_8_method_12_code 30 = .ok (.iconst 1, 1) := by decide +kernel
theorem d_Rows_canBeBetter_31 : decode prog_8_method_12_code 31 = .ok (.goto 4, 3) := by decide +kernel
theorem d_Rows_canBeBetter_34 : decode prog_8_method_12_code 34 = .ok (.iconst 0, 1) := by decide +kernel
theorem d_Rows_canBeBetter_35 : decode prog_8_method_12_code 35 = .ok (.istore 5, 2) := by decide +kernel
theorem d_Rows_canBeBetter_37 : decode prog_8_method_12_code 37 = .ok (.aload_n 2, 1) := by decide +kernel
theorem d_Rows_canBeBetter_38 : decode prog_8_method_12_code 38 = .ok (.getfield 80, 3) := by decide +kernel
theorem d_Rows_canBeBetter_41 : decode prog_8_method_12_code 41 = .ok (.ifCond .ne 35, 3) := by decide +kernel
theorem d_Rows_canBeBetter_44 : decode prog_8_method_12_code 44 = .ok (.iload_n 3, 1) := by decide +kernel
theorem d_Rows_canBeBetter_45 : decode prog_8_method_12_code 45 = .ok (.aload_n 0, 1) := by decide +kernel
theorem d_Rows_canBeBetter_46 : decode prog_8_method_12_code 46 = .ok (.getfield 37, 3) := by decide +kernel
theorem d_Rows_canBeBetter_49 : decode prog_8_method_12_code 49 = .ok (.if_icmp .ne 27, 3) := by decide +kernel
theorem d_Rows_canBeBetter_52 : decode prog_8_method_12_code 52 = .ok (.aload_n 0, 1) := by decide +kernel
theorem d_Rows_canBeBetter_53 : decode prog_8_method_12_code 53 = .ok (.getfield 40, 3) := by decide +kernel
theorem d_Rows_canBeBetter_56 : decode prog_8_method_12_code 56 = .ok (.aload_n 0, 1) := by decide +kernel
theorem d_Rows_canBeBetter_57 : decode prog_8_method_12_code 57 = .ok (.getfield 37, 3) := by decide +kernel
theorem d_Rows_canBeBetter_60 : decode prog_8_method_12_code 60 = .ok (.if_icmp .le 16, 3) := by decide +kernel
theorem d_Rows_canBeBetter_63 : decode prog_8_method_12_code 63 = .ok (.iload 4, 2) := by decide +kernel
theorem d_Rows_canBeBetter_65 : decode prog_8_method_12_code 65 = .ok (.aload_n 0, 1) := by decide +kernel
theorem d_Rows_canBeBetter_66 : decode prog_8_method_12_code 66 = .ok (.getfield 43, 3) := by decide +kernel
theorem d_Rows_canBeBetter_69 : decode prog_8_method_12_code 69 = .ok (.if_icmp .le 7, 3) := by decide +kernel
theorem d_Rows_canBeBetter_72 : decode prog_8_method_12_code 72 = .ok (.iconst 1, 1) := by decide +kernel
theorem d_Rows_canBeBetter_73 : decode prog_8_method_12_code 73 = .ok (.goto 4, 3) := by decide +kernel
theorem d_Rows_canBeBetter_76 : decode prog_8_method_12_code 76 = .ok (.iconst 0, 1) := by decide +kernel
theorem d_Rows_canBeBetter_77 : decode prog_8_method_12_code 77 = .ok (.istore 6, 2) := by decide +kernel
theorem d_Rows_canBeBetter_79 : decode prog_8_method_12_code 79 = .ok (.iload 5, 2) := by decide +kernel
theorem d_Rows_canBeBetter_81 : decode prog_8_method_12_code 81 = .ok (.ifCond .eq 8, 3) := by decide +kernel
theorem d_Rows_canBeBetter_84 : decode prog_8_method_12_code 84 = .ok (.aload_n 0, 1) := by decide +kernel
theorem d_Rows_canBeBetter_85 : decode prog_8_method_12_code 85 = .ok (.iload_n 3, 1) := by decide +kernel
theorem d_Rows_canBeBetter_86 : decode prog_8_method_12_code 86 = .ok (.putfield 40, 3) := by decide +kernel
theorem d_Rows_canBeBetter_89 : decode prog_8_method_12_code 89 = .ok (.iload 5, 2) := by decide +kernel
theorem d_Rows_canBeBetter_91 : decode prog_8_method_12_code 91 = .ok (.ifCond .ne 8, 3) := by decide +kernel
theorem d_Rows_canBeBetter_94 : decode prog_8_method_12_code 94 = .ok (.iload 6, 2) := by decide +kernel
theorem d_Rows_canBeBetter_96 : decode prog_8_method_12_code 96 = .ok (.ifCond .eq 14, 3) := by decide +kernel
theorem d_Rows_canBeBetter_99 : decode prog_8_method_12_code 99 = .ok (.aload_n 0, 1) := by decide +kernel
theorem d_Rows_canBeBetter_100 : decode prog_8_method_12_code 100 = .ok (.iload 4, 2) := by decide +kernel
theorem d_Rows_canBeBetter_102 : decode prog_8_method_12_code 102 = .ok (.putfield 43, 3) := by decide +kernel
theorem d_Rows_canBeBetter_105 : decode prog_8_method_12_code 105 = .ok (.aload_n 0, 1) := by decide +kernel
theorem d_Rows_canBeBetter_106 : decode prog_8_method_12_code 106 = .ok (.iload_n 1, 1) := by decide +kernel
theorem d_Rows_canBeBetter_107 : decode prog_8_method_12_code 107 = .ok (.invokevirtual 132, 3) := by decide +kernel
theorem d_Rows_canBeBetter_110 : decode prog_8_method_12_code 110 = .ok (.iload_n 3, 1) := by decide +kernel
theorem d_Rows_canBeBetter_111 : decode prog_8_method_12_code 111 = .ok (.iconst 1, 1) := by decide +kernel
theorem d_Rows_canBeBetter_112 : decode prog_8_method_12_code 112 = .ok (.iadd, 1) := by decide +kernel
theorem d_Rows_canBeBetter_113 : decode prog_8_method_12_code 113 = .ok (.aload_n 0, 1) := by decide +kernel
theorem d_Rows_canBeBetter_114 : decode prog_8_method_12_code 114 = .ok (.getfield 40, 3) := by decide +kernel
theorem d_Rows_canBeBetter_117 : decode prog_8_method_12_code 117 = .ok (.if_icmp .ge 7, 3) := by decide +kernel
theorem d_Rows_canBeBetter_120 : decode prog_8_method_12_code 120 = .ok (.iconst 1, 1) := by decide +kernel
theorem d_Rows_canBeBetter_121 : decode prog_8_method_12_code 121 = .ok (.goto 4, 3) := by decide +kernel
theorem d_Rows_canBeBetter_124 : decode prog_8_method_12_code 124 = .ok (.iconst 0, 1) := by decide +kernel
theorem d_Rows_canBeBetter_125 : decode prog_8_method_12_code 125 = .ok (.ireturn, 1) := by decide +kernel
theorem d_Rows_fitsSoFar_0 : decode prog_8_method_13_code 0 = .ok (.aload_n 2, 1) := by decide +kernel
theorem d_Rows_fitsSoFar_1 : decode prog_8_method_13_code 1 = .ok (.getfield 126, 3) := by decide +kernel
theorem d_Rows_fitsSoFar_4 : decode prog_8_method_13_code 4 = .ok (.aload_n 0, 1) := by decide +kernel
theorem d_Rows_fitsSoFar_5 : decode prog_8_method_13_code 5 = .ok (.getfield 22, 3) := by decide +kernel
theorem d_Rows_fitsSoFar_8 : decode prog_8_method_13_code 8 = .ok (.iload_n 1, 1) := by decide +kernel
theorem d_Rows_fitsSoFar_9 : decode prog_8_method_13_code 9 = .ok (.invokevirtual 135, 3) := by decide +kernel
theorem d_Rows_fitsSoFar_12 : decode prog_8_method_13_code 12 = .ok (.if_icmp .eq 5, 3) := by decide +kernel
theorem d_Rows_fitsSoFar_15 : decode prog_8_method_13_code 15 = .ok (.iconst 0, 1) := by decide +kernel
theorem d_Rows_fitsSoFar_16 : decode prog_8_method_13_code 16 = .ok (.ireturn, 1) := by decide +kernel
theorem d_Rows_fitsSoFar_17 : decode prog_8_method_13_code 17 = .ok (.iload_n 1, 1) := by decide +kernel
theorem d_Rows_fitsSoFar_18 : decode prog_8_method_13_code 18 = .ok (.iconst 1, 1) := by decide +kernel
theorem d_Rows_fitsSoFar_19 : decode prog_8_method_13_code 19 = .ok (.iadd, 1) := by decide +kernel
theorem d_Rows_fitsSoFar_20 : decode prog_8_method_13_code 20 = .ok (.aload_n 0, 1) := by decide +kernel
theorem d_Rows_fitsSoFar_21 : decode prog_8_method_13_code 21 = .ok (.getfield 37, 3) := by decide +kernel
theorem d_Rows_fitsSoFar_24 : decode prog_8_method_13_code 24 = .ok (.if_icmp .ne 25, 3) := by decide +kernel
theorem d_Rows_fitsSoFar_27 : decode prog_8_method_13_code 27 = .ok (.aload_n 0, 1) := by decide +kernel
theorem d_Rows_fitsSoFar_28 : decode prog_8_method_13_code 28 = .ok (.getfield 46, 3) := by decide +kernel
theorem d_Rows_fitsSoFar_31 : decode prog_8_method_13_code 31 = .ok (.ifCond .ne 8, 3) := by decide +kernel
theorem d_Rows_fitsSoFar_34 : decode prog_8_method_13_code 34 = .ok (.aload_n 0, 1) := by decide +kernel
theorem d_Rows_fitsSoFar_35 : decode prog_8_method_13_code 35 = .ok (.iload_n 1, 1) := by decide +kernel
theorem d_Rows_fitsSoFar_36 : decode prog_8_method_13_code 36 = .ok (.invokevirtual 132, 3) := by decide +kernel
theorem d_Rows_fitsSoFar_39 : decode prog_8_method_13_code 39 = .ok (.aload_n 0, 1) := by decide +kernel
theorem d_Rows_fitsSoFar_40 : decode prog_8_method_13_code 40 = .ok (.dup, 1) := by decide +kernel
theorem d_Rows_fitsSoFar_41 : decode prog_8_method_13_code 41 = .ok (.getfield 46, 3) := by decide +kernel
theorem d_Rows_fitsSoFar_44 : decode prog_8_method_13_code 44 = .ok (.iconst 1, 1) := by decide +kernel
theorem d_Rows_fitsSoFar_45 : decode prog_8_method_13_code 45 = .ok (.iadd, 1) := by decide +kernel
theorem d_Rows_fitsSoFar_46 : decode prog_8_method_13_code 46 = .ok (.putfield 46, 3) := by decide +kernel
theorem d_Rows_fitsSoFar_49 : decode prog_8_method_13_code 49 = .ok (.iconst 1, 1) := by decide +kernel
theorem d_Rows_fitsSoFar_50 : decode prog_8_method_13_code 50 = .ok (.ireturn, 1) := by decide +kernel
theorem d_Rows_countsIfOut_0 : decode prog_8_method_14_code 0 = .ok (.aload_n 2, 1) := by decide +kernel
theorem d_Rows_countsIfOut_1 : decode prog_8_method_14_code 1 = .ok (.getfield 80, 3) := by decide +kernel
theorem d_Rows_countsIfOut_4 : decode prog_8_method_14_code 4 = .ok (.ifCond .eq 23, 3) := by decide +kernel
theorem d_Rows_countsIfOut_7 : decode prog_8_method_14_code 7 = .ok (.aload_n 0, 1) := by decide +kernel
theorem d_Rows_countsIfOut_8 : decode prog_8_method_14_code 8 = .ok (.dup, 1) := by decide +kernel
theorem d_Rows_countsIfOut_9 : decode prog_8_method_14_code 9 = .ok (.getfield 46, 3) := by decide +kernel
theorem d_Rows_countsIfOut_12 : decode prog_8_method_14_code 12 = .ok (.aload_n 0, 1) := by decide +kernel
theorem d_Rows_countsIfOut_13 : decode prog_8_method_14_code 13 = .ok (.getfield 37, 3) := by decide +kernel
theorem d_Rows_countsIfOut_16 : decode prog_8_method_14_code 16 = .ok (.iload_n 1, 1) := by decide +kernel
theorem d_Rows_countsIfOut_17 : decode prog_8_method_14_code 17 = .ok (.isub, 1) := by decide +kernel
theorem d_Rows_countsIfOut_18 : decode prog_8_method_14_code 18 = .ok (.iconst 1, 1) := by decide +kernel
theorem d_Rows_countsIfOut_19 : decode prog_8_method_14_code 19 = .ok (.isub, 1) := by decide +kernel
theorem d_Rows_countsIfOut_20 : decode prog_8_method_14_code 20 = .ok (.invokestatic 136, 3) := by decide +kernel
theorem d_Rows_countsIfOut_23 : decode prog_8_method_14_code 23 = .ok (.iadd, 1) := by decide +kernel
theorem d_Rows_countsIfOut_24 : decode prog_8_method_14_code 24 = .ok (.putfield 46, 3) := by decide +kernel
theorem d_Rows_countsIfOut_27 : decode prog_8_method_14_code 27 = .ok (.iconst 1, 1) := by decide +kernel
theorem d_Rows_countsIfOut_28 : decode prog_8_method_14_code 28 = .ok (.ireturn, 1) := by decide +kernel
theorem d_Rows_carAt_0 : decode prog_8_method_15_code 0 = .ok (.iload_n 1, 1) := by decide +kernel
theorem d_Rows_carAt_1 : decode prog_8_method_15_code 1 = .ok (.ifCond .lt 21, 3) := by decide +kernel
theorem d_Rows_carAt_4 : decode prog_8_method_15_code 4 = .ok (.iload_n 1, 1) := by decide +kernel
theorem d_Rows_carAt_5 : decode prog_8_method_15_code 5 = .ok (.aload_n 0, 1) := by decide +kernel
theorem d_Rows_carAt_6 : decode prog_8_method_15_code 6 = .ok (.getfield 13, 3) := by decide +kernel
theorem d_Rows_carAt_9 : decode prog_8_method_15_code 9 = .ok (.arraylength, 1) := by decide +kernel
theorem d_Rows_carAt_10 : decode prog_8_method_15_code 10 = .ok (.if_icmp .ge 12, 3) := by decide +kernel
theorem d_Rows_carAt_13 : decode prog_8_method_15_code 13 = .ok (.aload_n 0, 1) := by decide +kernel
theorem d_Rows_carAt_14 : decode prog_8_method_15_code 14 = .ok (.getfield 13, 3) := by decide +kernel
theorem d_Rows_carAt_17 : decode prog_8_method_15_code 17 = .ok (.iload_n 1, 1) := by decide +kernel
theorem d_Rows_carAt_18 : decode prog_8_method_15_code 18 = .ok (.aaload, 1) := by decide +kernel
theorem d_Rows_carAt_19 : decode prog_8_method_15_code 19 = .ok (.goto 4, 3) := by decide +kernel
theorem d_Rows_carAt_22 : decode prog_8_method_15_code 22 = .ok (.aconst_null, 1) := by decide +kernel
theorem d_Rows_carAt_23 : decode prog_8_method_15_code 23 = .ok (.areturn, 1) := by decide +kernel
theorem d_Rows_note_0 : decode prog_8_method_16_code 0 = .ok (.iload_n 1, 1) := by decide +kernel
theorem d_Rows_note_1 : decode prog_8_method_16_code 1 = .ok (.ifCond .lt 19, 3) := by decide +kernel
theorem d_Rows_note_4 : decode prog_8_method_16_code 4 = .ok (.iload_n 1, 1) := by decide +kernel
theorem d_Rows_note_5 : decode prog_8_method_16_code 5 = .ok (.aload_n 0, 1) := by decide +kernel
theorem d_Rows_note_6 : decode prog_8_method_16_code 6 = .ok (.getfield 26, 3) := by decide +kernel
theorem d_Rows_note_9 : decode prog_8_method_16_code 9 = .ok (.arraylength, 1) := by decide +kernel
theorem d_Rows_note_10 : decode prog_8_method_16_code 10 = .ok (.if_icmp .ge 10, 3) := by decide +kernel
theorem d_Rows_note_13 : decode prog_8_method_16_code 13 = .ok (.aload_n 0, 1) := by decide +kernel
theorem d_Rows_note_14 : decode prog_8_method_16_code 14 = .ok (.getfield 26, 3) := by decide +kernel
theorem d_Rows_note_17 : decode prog_8_method_16_code 17 = .ok (.iload_n 1, 1) := by decide +kernel
theorem d_Rows_note_18 : decode prog_8_method_16_code 18 = .ok (.iload_n 2, 1) := by decide +kernel
theorem d_Rows_note_19 : decode prog_8_method_16_code 19 = .ok (.iastore, 1) := by decide +kernel
theorem d_Rows_note_20 : decode prog_8_method_16_code 20 = .ok (.return_, 1) := by decide +kernel
theorem d_Rows_keep_0 : decode prog_8_method_17_code 0 = .ok (.iconst 0, 1) := by decide +kernel
theorem d_Rows_keep_1 : decode prog_8_method_17_code 1 = .ok (.istore_n 2, 1) := by decide +kernel
theorem d_Rows_keep_2 : decode prog_8_method_17_code 2 = .ok (.iload_n 2, 1) := by decide +kernel
theorem d_Rows_keep_3 : decode prog_8_method_17_code 3 = .ok (.aload_n 0, 1) := by decide +kernel
theorem d_Rows_keep_4 : decode prog_8_method_17_code 4 = .ok (.getfield 26, 3) := by decide +kernel
theorem d_Rows_keep_7 : decode prog_8_method_17_code 7 = .ok (.arraylength, 1) := by decide +kernel
theorem d_Rows_keep_8 : decode prog_8_method_17_code 8 = .ok (.if_icmp .ge 39, 3) := by decide +kernel
theorem d_Rows_keep_11 : decode prog_8_method_17_code 11 = .ok (.iload_n 2, 1) := by decide +kernel
theorem d_Rows_keep_12 : decode prog_8_method_17_code 12 = .ok (.aload_n 0, 1) := by decide +kernel
theorem d_Rows_keep_13 : decode prog_8_method_17_code 13 = .ok (.getfield 30, 3) := by decide +kernel
theorem d_Rows_keep_16 : decode prog_8_method_17_code 16 = .ok (.arraylength, 1) := by decide +kernel
theorem d_Rows_keep_17 : decode prog_8_method_17_code 17 = .ok (.if_icmp .ge 30, 3) := by decide +kernel
theorem d_Rows_keep_20 : decode prog_8_method_17_code 20 = .ok (.aload_n 0, 1) := by decide +kernel
theorem d_Rows_keep_21 : decode prog_8_method_17_code 21 = .ok (.getfield 30, 3) := by decide +kernel
theorem d_Rows_keep_24 : decode prog_8_method_17_code 24 = .ok (.iload_n 2, 1) := by decide +kernel
theorem d_Rows_keep_25 : decode prog_8_method_17_code 25 = .ok (.iload_n 2, 1) := by decide +kernel
theorem d_Rows_keep_26 : decode prog_8_method_17_code 26 = .ok (.iload_n 1, 1) := by decide +kernel
theorem d_Rows_keep_27 : decode prog_8_method_17_code 27 = .ok (.if_icmp .gt 12, 3) := by decide +kernel
theorem d_Rows_keep_30 : decode prog_8_method_17_code 30 = .ok (.aload_n 0, 1) := by decide +kernel
theorem d_Rows_keep_31 : decode prog_8_method_17_code 31 = .ok (.getfield 26, 3) := by decide +kernel
theorem d_Rows_keep_34 : decode prog_8_method_17_code 34 = .ok (.iload_n 2, 1) := by decide +kernel
theorem d_Rows_keep_35 : decode prog_8_method_17_code 35 = .ok (.iaload, 1) := by decide +kernel
theorem d_Rows_keep_36 : decode prog_8_method_17_code 36 = .ok (.goto 4, 3) := by decide +kernel
theorem d_Rows_keep_39 : decode prog_8_method_17_code 39 = .ok (.iconst 0, 1) := by decide +kernel
theorem d_Rows_keep_40 : decode prog_8_method_17_code 40 = .ok (.iastore, 1) := by decide +kernel
theorem d_Rows_keep_41 : decode prog_8_method_17_code 41 = .ok (.iinc 2 1, 3) := by decide +kernel
theorem d_Rows_keep_44 : decode prog_8_method_17_code 44 = .ok (.goto (-42), 3) := by decide +kernel
theorem d_Rows_keep_47 : decode prog_8_method_17_code 47 = .ok (.return_, 1) := by decide +kernel
theorem d_J_bitCount_0 : decode prog_14_method_49_code 0 = .ok (.iload_n 0, 1) := by decide +kernel
theorem d_J_bitCount_1 : decode prog_14_method_49_code 1 = .ok (.iload_n 0, 1) := by decide +kernel
theorem d_J_bitCount_2 : decode prog_14_method_49_code 2 = .ok (.iconst 1, 1) := by decide +kernel
theorem d_J_bitCount_3 : decode prog_14_method_49_code 3 = .ok (.iushr, 1) := by decide +kernel
theorem d_J_bitCount_4 : decode prog_14_method_49_code 4 = .ok (.ldc_w 265, 3) := by decide +kernel
theorem d_J_bitCount_7 : decode prog_14_method_49_code 7 = .ok (.iand, 1) := by decide +kernel
theorem d_J_bitCount_8 : decode prog_14_method_49_code 8 = .ok (.isub, 1) := by decide +kernel
theorem d_J_bitCount_9 : decode prog_14_method_49_code 9 = .ok (.istore_n 0, 1) := by decide +kernel
theorem d_J_bitCount_10 : decode prog_14_method_49_code 10 = .ok (.iload_n 0, 1) := by decide +kernel
theorem d_J_bitCount_11 : decode prog_14_method_49_code 11 = .ok (.ldc_w 266, 3) := by decide +kernel
theorem d_J_bitCount_14 : decode prog_14_method_49_code 14 = .ok (.iand, 1) := by decide +kernel
theorem d_J_bitCount_15 : decode prog_14_method_49_code 15 = .ok (.iload_n 0, 1) := by decide +kernel
theorem d_J_bitCount_16 : decode prog_14_method_49_code 16 = .ok (.iconst 2, 1) := by decide +kernel
theorem d_J_bitCount_17 : decode prog_14_method_49_code 17 = .ok (.iushr, 1) := by decide +kernel
theorem d_J_bitCount_18 : decode prog_14_method_49_code 18 = .ok (.ldc_w 266, 3) := by decide +kernel
theorem d_J_bitCount_21 : decode prog_14_method_49_code 21 = .ok (.iand, 1) := by decide +kernel
theorem d_J_bitCount_22 : decode prog_14_method_49_code 22 = .ok (.iadd, 1) := by decide +kernel
theorem d_J_bitCount_23 : decode prog_14_method_49_code 23 = .ok (.istore_n 0, 1) := by decide +kernel
theorem d_J_bitCount_24 : decode prog_14_method_49_code 24 = .ok (.iload_n 0, 1) := by decide +kernel
theorem d_J_bitCount_25 : decode prog_14_method_49_code 25 = .ok (.iload_n 0, 1) := by decide +kernel
theorem d_J_bitCount_26 : decode prog_14_method_49_code 26 = .ok (.iconst 4, 1) := by decide +kernel
theorem d_J_bitCount_27 : decode prog_14_method_49_code 27 = .ok (.iushr, 1) := by decide +kernel
theorem d_J_bitCount_28 : decode prog_14_method_49_code 28 = .ok (.iadd, 1) := by decide +kernel
theorem d_J_bitCount_29 : decode prog_14_method_49_code 29 = .ok (.ldc_w 267, 3) := by decide +kernel
theorem d_J_bitCount_32 : decode prog_14_method_49_code 32 = .ok (.iand, 1) := by decide +kernel
theorem d_J_bitCount_33 : decode prog_14_method_49_code 33 = .ok (.istore_n 0, 1) := by decide +kernel
theorem d_J_bitCount_34 : decode prog_14_method_49_code 34 = .ok (.iload_n 0, 1) := by decide +kernel
theorem d_J_bitCount_35 : decode prog_14_method_49_code 35 = .ok (.iload_n 0, 1) := by decide +kernel
theorem d_J_bitCount_36 : decode prog_14_method_49_code 36 = .ok (.bipush 8, 2) := by decide +kernel
theorem d_J_bitCount_38 : decode prog_14_method_49_code 38 = .ok (.iushr, 1) := by decide +kernel
theorem d_J_bitCount_39 : decode prog_14_method_49_code 39 = .ok (.iadd, 1) := by decide +kernel
theorem d_J_bitCount_40 : decode prog_14_method_49_code 40 = .ok (.istore_n 0, 1) := by decide +kernel
theorem d_J_bitCount_41 : decode prog_14_method_49_code 41 = .ok (.iload_n 0, 1) := by decide +kernel
theorem d_J_bitCount_42 : decode prog_14_method_49_code 42 = .ok (.iload_n 0, 1) := by decide +kernel
theorem d_J_bitCount_43 : decode prog_14_method_49_code 43 = .ok (.bipush 16, 2) := by decide +kernel
theorem d_J_bitCount_45 : decode prog_14_method_49_code 45 = .ok (.iushr, 1) := by decide +kernel
theorem d_J_bitCount_46 : decode prog_14_method_49_code 46 = .ok (.iadd, 1) := by decide +kernel
theorem d_J_bitCount_47 : decode prog_14_method_49_code 47 = .ok (.istore_n 0, 1) := by decide +kernel
theorem d_J_bitCount_48 : decode prog_14_method_49_code 48 = .ok (.iload_n 0, 1) := by decide +kernel
theorem d_J_bitCount_49 : decode prog_14_method_49_code 49 = .ok (.bipush 63, 2) := by decide +kernel
theorem d_J_bitCount_51 : decode prog_14_method_49_code 51 = .ok (.iand, 1) := by decide +kernel
theorem d_J_bitCount_52 : decode prog_14_method_49_code 52 = .ok (.ireturn, 1) := by decide +kernel
theorem d_J_max_0 : decode prog_15_method_65_code 0 = .ok (.iload_n 0, 1) := by decide +kernel
theorem d_J_max_1 : decode prog_15_method_65_code 1 = .ok (.iload_n 1, 1) := by decide +kernel
theorem d_J_max_2 : decode prog_15_method_65_code 2 = .ok (.if_icmp .lt 7, 3) := by decide +kernel
theorem d_J_max_5 : decode prog_15_method_65_code 5 = .ok (.iload_n 0, 1) := by decide +kernel
theorem d_J_max_6 : decode prog_15_method_65_code 6 = .ok (.goto 4, 3) := by decide +kernel
theorem d_J_max_9 : decode prog_15_method_65_code 9 = .ok (.iload_n 1, 1) := by decide +kernel
theorem d_J_max_10 : decode prog_15_method_65_code 10 = .ok (.ireturn, 1) := by decide +kernel
theorem d_J_min_0 : decode prog_15_method_69_code 0 = .ok (.iload_n 0, 1) := by decide +kernel
theorem d_J_min_1 : decode prog_15_method_69_code 1 = .ok (.iload_n 1, 1) := by decide +kernel
theorem d_J_min_2 : decode prog_15_method_69_code 2 = .ok (.if_icmp .gt 7, 3) := by decide +kernel
theorem d_J_min_5 : decode prog_15_method_69_code 5 = .ok (.iload_n 0, 1) := by decide +kernel
theorem d_J_min_6 : decode prog_15_method_69_code 6 = .ok (.goto 4, 3) := by decide +kernel
theorem d_J_min_9 : decode prog_15_method_69_code 9 = .ok (.iload_n 1, 1) := by decide +kernel
theorem d_J_min_10 : decode prog_15_method_69_code 10 = .ok (.ireturn, 1) := by decide +kernel
theorem d_P_init_0 : decode prog_1_method_1_code 0 = .ok (.aload_n 0, 1) := by decide +kernel
theorem d_P_init_1 : decode prog_1_method_1_code 1 = .ok (.invokespecial 1, 3) := by decide +kernel
theorem d_P_init_4 : decode prog_1_method_1_code 4 = .ok (.aload_n 0, 1) := by decide +kernel
theorem d_P_init_5 : decode prog_1_method_1_code 5 = .ok (.new 7, 3) := by decide +kernel
theorem d_P_init_8 : decode prog_1_method_1_code 8 = .ok (.dup, 1) := by decide +kernel
theorem d_P_init_9 : decode prog_1_method_1_code 9 = .ok (.invokespecial 9, 3) := by decide +kernel
theorem d_P_init_12 : decode prog_1_method_1_code 12 = .ok (.putfield 10, 3) := by decide +kernel
theorem d_P_init_15 : decode prog_1_method_1_code 15 = .ok (.aload_n 0, 1) := by decide +kernel
theorem d_P_init_16 : decode prog_1_method_1_code 16 = .ok (.new 7, 3) := by decide +kernel
theorem d_P_init_19 : decode prog_1_method_1_code 19 = .ok (.dup, 1) := by decide +kernel
theorem d_P_init_20 : decode prog_1_method_1_code 20 = .ok (.invokespecial 9, 3) := by decide +kernel
theorem d_P_init_23 : decode prog_1_method_1_code 23 = .ok (.putfield 16, 3) := by decide +kernel
theorem d_P_init_26 : decode prog_1_method_1_code 26 = .ok (.aload_n 0, 1) := by decide +kernel
theorem d_P_init_27 : decode prog_1_method_1_code 27 = .ok (.new 19, 3) := by decide +kernel
theorem d_P_init_30 : decode prog_1_method_1_code 30 = .ok (.dup, 1) := by decide +kernel
theorem d_P_init_31 : decode prog_1_method_1_code 31 = .ok (.invokespecial 21, 3) := by decide +kernel
theorem d_P_init_34 : decode prog_1_method_1_code 34 = .ok (.putfield 22, 3) := by decide +kernel
theorem d_P_init_37 : decode prog_1_method_1_code 37 = .ok (.aload_n 0, 1) := by decide +kernel
theorem d_P_init_38 : decode prog_1_method_1_code 38 = .ok (.new 26, 3) := by decide +kernel
theorem d_P_init_41 : decode prog_1_method_1_code 41 = .ok (.dup, 1) := by decide +kernel
theorem d_P_init_42 : decode prog_1_method_1_code 42 = .ok (.invokespecial 28, 3) := by decide +kernel
theorem d_P_init_45 : decode prog_1_method_1_code 45 = .ok (.putfield 29, 3) := by decide +kernel
theorem d_P_init_48 : decode prog_1_method_1_code 48 = .ok (.aload_n 0, 1) := by decide +kernel
theorem d_P_init_49 : decode prog_1_method_1_code 49 = .ok (.new 33, 3) := by decide +kernel
theorem d_P_init_52 : decode prog_1_method_1_code 52 = .ok (.dup, 1) := by decide +kernel
theorem d_P_init_53 : decode prog_1_method_1_code 53 = .ok (.invokespecial 35, 3) := by decide +kernel
theorem d_P_init_56 : decode prog_1_method_1_code 56 = .ok (.putfield 36, 3) := by decide +kernel
theorem d_P_init_59 : decode prog_1_method_1_code 59 = .ok (.aload_n 0, 1) := by decide +kernel
theorem d_P_init_60 : decode prog_1_method_1_code 60 = .ok (.new 40, 3) := by decide +kernel
theorem d_P_init_63 : decode prog_1_method_1_code 63 = .ok (.dup, 1) := by decide +kernel
theorem d_P_init_64 : decode prog_1_method_1_code 64 = .ok (.invokespecial 42, 3) := by decide +kernel
theorem d_P_init_67 : decode prog_1_method_1_code 67 = .ok (.putfield 43, 3) := by decide +kernel
theorem d_P_init_70 : decode prog_1_method_1_code 70 = .ok (.aload_n 0, 1) := by decide +kernel
theorem d_P_init_71 : decode prog_1_method_1_code 71 = .ok (.iconst 4, 1) := by decide +kernel
theorem d_P_init_72 : decode prog_1_method_1_code 72 = .ok (.anewarray 47, 3) := by decide +kernel
theorem d_P_init_75 : decode prog_1_method_1_code 75 = .ok (.putfield 49, 3) := by decide +kernel
theorem d_P_init_78 : decode prog_1_method_1_code 78 = .ok (.aload_n 0, 1) := by decide +kernel
theorem d_P_init_79 : decode prog_1_method_1_code 79 = .ok (.bipush 7, 2) := by decide +kernel
theorem d_P_init_81 : decode prog_1_method_1_code 81 = .ok (.newarray .int, 2) := by decide +kernel
theorem d_P_init_83 : decode prog_1_method_1_code 83 = .ok (.putfield 53, 3) := by decide +kernel
theorem d_P_init_86 : decode prog_1_method_1_code 86 = .ok (.aload_n 0, 1) := by decide +kernel
theorem d_P_init_87 : decode prog_1_method_1_code 87 = .ok (.iconst 0, 1) := by decide +kernel
theorem d_P_init_88 : decode prog_1_method_1_code 88 = .ok (.putfield 57, 3) := by decide +kernel
theorem d_P_init_91 : decode prog_1_method_1_code 91 = .ok (.iconst 0, 1) := by decide +kernel
theorem d_P_init_92 : decode prog_1_method_1_code 92 = .ok (.istore_n 1, 1) := by decide +kernel
theorem d_P_init_93 : decode prog_1_method_1_code 93 = .ok (.iload_n 1, 1) := by decide +kernel
theorem d_P_init_94 : decode prog_1_method_1_code 94 = .ok (.aload_n 0, 1) := by decide +kernel
theorem d_P_init_95 : decode prog_1_method_1_code 95 = .ok (.getfield 49, 3) := by decide +kernel
theorem d_P_init_98 : decode prog_1_method_1_code 98 = .ok (.arraylength, 1) := by decide +kernel
theorem d_P_init_99 : decode prog_1_method_1_code 99 = .ok (.if_icmp .ge 22, 3) := by decide +kernel
theorem d_P_init_102 : decode prog_1_method_1_code 102 = .ok (.aload_n 0, 1) := by decide +kernel
theorem d_P_init_103 : decode prog_1_method_1_code 103 = .ok (.getfield 49, 3) := by decide +kernel
theorem d_P_init_106 : decode prog_1_method_1_code 106 = .ok (.iload_n 1, 1) := by decide +kernel
theorem d_P_init_107 : decode prog_1_method_1_code 107 = .ok (.new 47, 3) := by decide +kernel
theorem d_P_init_110 : decode prog_1_method_1_code 110 = .ok (.dup, 1) := by decide +kernel
theorem d_P_init_111 : decode prog_1_method_1_code 111 = .ok (.invokespecial 61, 3) := by decide +kernel
theorem d_P_init_114 : decode prog_1_method_1_code 114 = .ok (.aastore, 1) := by decide +kernel
theorem d_P_init_115 : decode prog_1_method_1_code 115 = .ok (.iinc 1 1, 3) := by decide +kernel
theorem d_P_init_118 : decode prog_1_method_1_code 118 = .ok (.goto (-25), 3) := by decide +kernel
theorem d_P_init_121 : decode prog_1_method_1_code 121 = .ok (.return_, 1) := by decide +kernel
theorem d_P_pusher_0 : decode prog_1_method_2_code 0 = .ok (.iload_n 1, 1) := by decide +kernel
theorem d_P_pusher_1 : decode prog_1_method_2_code 1 = .ok (.invokestatic 62, 3) := by decide +kernel
theorem d_P_pusher_4 : decode prog_1_method_2_code 4 = .ok (.ifCond .ne 9, 3) := by decide +kernel
theorem d_P_pusher_7 : decode prog_1_method_2_code 7 = .ok (.aload_n 0, 1) := by decide +kernel
theorem d_P_pusher_8 : decode prog_1_method_2_code 8 = .ok (.iconst 1, 1) := by decide +kernel
theorem d_P_pusher_9 : decode prog_1_method_2_code 9 = .ok (.invokevirtual 66, 3) := by decide +kernel
theorem d_P_pusher_12 : decode prog_1_method_2_code 12 = .ok (.ireturn, 1) := by decide +kernel
theorem d_P_pusher_13 : decode prog_1_method_2_code 13 = .ok (.aload_n 0, 1) := by decide +kernel
theorem d_P_pusher_14 : decode prog_1_method_2_code 14 = .ok (.getfield 10, 3) := by decide +kernel
theorem d_P_pusher_17 : decode prog_1_method_2_code 17 = .ok (.getfield 70, 3) := by decide +kernel
theorem d_P_pusher_20 : decode prog_1_method_2_code 20 = .ok (.invokevirtual 74, 3) := by decide +kernel
theorem d_P_pusher_23 : decode prog_1_method_2_code 23 = .ok (.ifCond .ne 9, 3) := by decide +kernel
theorem d_P_pusher_26 : decode prog_1_method_2_code 26 = .ok (.aload_n 0, 1) := by decide +kernel
theorem d_P_pusher_27 : decode prog_1_method_2_code 27 = .ok (.iconst 4, 1) := by decide +kernel
theorem d_P_pusher_28 : decode prog_1_method_2_code 28 = .ok (.invokevirtual 66, 3) := by decide +kernel
theorem d_P_pusher_31 : decode prog_1_method_2_code 31 = .ok (.ireturn, 1) := by decide +kernel
theorem d_P_pusher_32 : decode prog_1_method_2_code 32 = .ok (.aload_n 0, 1) := by decide +kernel
theorem d_P_pusher_33 : decode prog_1_method_2_code 33 = .ok (.getfield 10, 3) := by decide +kernel
theorem d_P_pusher_36 : decode prog_1_method_2_code 36 = .ok (.getfield 70, 3) := by decide +kernel
theorem d_P_pusher_39 : decode prog_1_method_2_code 39 = .ok (.iload_n 1, 1) := by decide +kernel
theorem d_P_pusher_40 : decode prog_1_method_2_code 40 = .ok (.bipush 10, 2) := by decide +kernel
theorem d_P_pusher_42 : decode prog_1_method_2_code 42 = .ok (.idiv, 1) := by decide +kernel
theorem d_P_pusher_43 : decode prog_1_method_2_code 43 = .ok (.iload_n 1, 1) := by decide +kernel
theorem d_P_pusher_44 : decode prog_1_method_2_code 44 = .ok (.bipush 10, 2) := by decide +kernel
theorem d_P_pusher_46 : decode prog_1_method_2_code 46 = .ok (.irem, 1) := by decide +kernel
theorem d_P_pusher_47 : decode prog_1_method_2_code 47 = .ok (.invokevirtual 80, 3) := by decide +kernel
theorem d_P_pusher_50 : decode prog_1_method_2_code 50 = .ok (.ireturn, 1) := by decide +kernel
theorem d_P_pusherIs_0 : decode prog_1_method_3_code 0 = .ok (.aload_n 0, 1) := by decide +kernel
theorem d_P_pusherIs_1 : decode prog_1_method_3_code 1 = .ok (.getfield 10, 3) := by decide +kernel
theorem d_P_pusherIs_4 : decode prog_1_method_3_code 4 = .ok (.getfield 70, 3) := by decide +kernel
theorem d_P_pusherIs_7 : decode prog_1_method_3_code 7 = .ok (.iload_n 1, 1) := by decide +kernel
theorem d_P_pusherIs_8 : decode prog_1_method_3_code 8 = .ok (.invokevirtual 84, 3) := by decide +kernel
theorem d_P_pusherIs_11 : decode prog_1_method_3_code 11 = .ok (.ifCond .ne 9, 3) := by decide +kernel
theorem d_P_pusherIs_14 : decode prog_1_method_3_code 14 = .ok (.aload_n 0, 1) := by decide +kernel
theorem d_P_pusherIs_15 : decode prog_1_method_3_code 15 = .ok (.iconst 1, 1) := by decide +kernel
theorem d_P_pusherIs_16 : decode prog_1_method_3_code 16 = .ok (.invokevirtual 66, 3) := by decide +kernel
theorem d_P_pusherIs_19 : decode prog_1_method_3_code 19 = .ok (.ireturn, 1) := by decide +kernel
theorem d_P_pusherIs_20 : decode prog_1_method_3_code 20 = .ok (.iload_n 2, 1) := by decide +kernel
theorem d_P_pusherIs_21 : decode prog_1_method_3_code 21 = .ok (.tableswitch 86 0 3 #[31, 43, 55, 74], 31) := by decide +kernel
theorem d_P_pusherIs_52 : decode prog_1_method_3_code 52 = .ok (.aload_n 0, 1) := by decide +kernel
theorem d_P_pusherIs_53 : decode prog_1_method_3_code 53 = .ok (.getfield 10, 3) := by decide +kernel
theorem d_P_pusherIs_56 : decode prog_1_method_3_code 56 = .ok (.getfield 70, 3) := by decide +kernel
theorem d_P_pusherIs_59 : decode prog_1_method_3_code 59 = .ok (.iload_n 1, 1) := by decide +kernel
theorem d_P_pusherIs_60 : decode prog_1_method_3_code 60 = .ok (.invokevirtual 87, 3) := by decide +kernel
theorem d_P_pusherIs_63 : decode prog_1_method_3_code 63 = .ok (.ireturn, 1) := by decide +kernel
theorem d_P_pusherIs_64 : decode prog_1_method_3_code 64 = .ok (.aload_n 0, 1) := by decide +kernel
theorem d_P_pusherIs_65 : decode prog_1_method_3_code 65 = .ok (.getfield 10, 3) := by decide +kernel
theorem d_P_pusherIs_68 : decode prog_1_method_3_code 68 = .ok (.getfield 70, 3) := by decide +kernel
theorem d_P_pusherIs_71 : decode prog_1_method_3_code 71 = .ok (.iload_n 1, 1) := by decide +kernel
theorem d_P_pusherIs_72 : decode prog_1_method_3_code 72 = .ok (.invokevirtual 90, 3) := by decide +kernel
theorem d_P_pusherIs_75 : decode prog_1_method_3_code 75 = .ok (.ireturn, 1) := by decide +kernel
theorem d_P_pusherIs_76 : decode prog_1_method_3_code 76 = .ok (.aload_n 0, 1) := by decide +kernel
theorem d_P_pusherIs_77 : decode prog_1_method_3_code 77 = .ok (.getfield 10, 3) := by decide +kernel
theorem d_P_pusherIs_80 : decode prog_1_method_3_code 80 = .ok (.getfield 70, 3) := by decide +kernel
theorem d_P_pusherIs_83 : decode prog_1_method_3_code 83 = .ok (.iload_n 1, 1) := by decide +kernel
theorem d_P_pusherIs_84 : decode prog_1_method_3_code 84 = .ok (.aload_n 0, 1) := by decide +kernel
theorem d_P_pusherIs_85 : decode prog_1_method_3_code 85 = .ok (.getfield 10, 3) := by decide +kernel
theorem d_P_pusherIs_88 : decode prog_1_method_3_code 88 = .ok (.getfield 93, 3) := by decide +kernel
theorem d_P_pusherIs_91 : decode prog_1_method_3_code 91 = .ok (.invokevirtual 96, 3) := by decide +kernel
theorem d_P_pusherIs_94 : decode prog_1_method_3_code 94 = .ok (.ireturn, 1) := by decide +kernel
theorem d_P_pusherIs_95 : decode prog_1_method_3_code 95 = .ok (.aload_n 0, 1) := by decide +kernel
theorem d_P_pusherIs_96 : decode prog_1_method_3_code 96 = .ok (.getfield 10, 3) := by decide +kernel
theorem d_P_pusherIs_99 : decode prog_1_method_3_code 99 = .ok (.getfield 70, 3) := by decide +kernel
theorem d_P_pusherIs_102 : decode prog_1_method_3_code 102 = .ok (.iload_n 1, 1) := by decide +kernel
theorem d_P_pusherIs_103 : decode prog_1_method_3_code 103 = .ok (.invokevirtual 100, 3) := by decide +kernel
theorem d_P_pusherIs_106 : decode prog_1_method_3_code 106 = .ok (.ireturn, 1) := by decide +kernel
theorem d_P_pusherIs_107 : decode prog_1_method_3_code 107 = .ok (.aload_n 0, 1) := by decide +kernel
theorem d_P_pusherIs_108 : decode prog_1_method_3_code 108 = .ok (.iconst 1, 1) := by decide +kernel
theorem d_P_pusherIs_109 : decode prog_1_method_3_code 109 = .ok (.invokevirtual 66, 3) := by decide +kernel
theorem d_P_pusherIs_112 : decode prog_1_method_3_code 112 = .ok (.ireturn, 1) := by decide +kernel
theorem d_P_become_0 : decode prog_1_method_4_code 0 = .ok (.aload_n 0, 1) := by decide +kernel
theorem d_P_become_1 : decode prog_1_method_4_code 1 = .ok (.getfield 10, 3) := by decide +kernel
theorem d_P_become_4 : decode prog_1_method_4_code 4 = .ok (.getfield 70, 3) := by decide +kernel
theorem d_P_become_7 : decode prog_1_method_4_code 7 = .ok (.iload_n 1, 1) := by decide +kernel
theorem d_P_become_8 : decode prog_1_method_4_code 8 = .ok (.invokevirtual 84, 3) := by decide +kernel
theorem d_P_become_11 : decode prog_1_method_4_code 11 = .ok (.ifCond .eq 10, 3) := by decide +kernel
theorem d_P_become_14 : decode prog_1_method_4_code 14 = .ok (.iload_n 2, 1) := by decide +kernel
theorem d_P_become_15 : decode prog_1_method_4_code 15 = .ok (.invokestatic 62, 3) := by decide +kernel
theorem d_P_become_18 : decode prog_1_method_4_code 18 = .ok (.ifCond .ne 9, 3) := by decide +kernel
theorem d_P_become_21 : decode prog_1_method_4_code 21 = .ok (.aload_n 0, 1) := by decide +kernel
theorem d_P_become_22 : decode prog_1_method_4_code 22 = .ok (.iconst 1, 1) := by decide +kernel
theorem d_P_become_23 : decode prog_1_method_4_code 23 = .ok (.invokevirtual 66, 3) := by decide +kernel
theorem d_P_become_26 : decode prog_1_method_4_code 26 = .ok (.ireturn, 1) := by decide +kernel
theorem d_P_become_27 : decode prog_1_method_4_code 27 = .ok (.aload_n 0, 1) := by decide +kernel
theorem d_P_become_28 : decode prog_1_method_4_code 28 = .ok (.getfield 10, 3) := by decide +kernel
theorem d_P_become_31 : decode prog_1_method_4_code 31 = .ok (.getfield 70, 3) := by decide +kernel
theorem d_P_become_34 : decode prog_1_method_4_code 34 = .ok (.iload_n 1, 1) := by decide +kernel
theorem d_P_become_35 : decode prog_1_method_4_code 35 = .ok (.invokevirtual 87, 3) := by decide +kernel
theorem d_P_become_38 : decode prog_1_method_4_code 38 = .ok (.istore_n 3, 1) := by decide +kernel
theorem d_P_become_39 : decode prog_1_method_4_code 39 = .ok (.aload_n 0, 1) := by decide +kernel
theorem d_P_become_40 : decode prog_1_method_4_code 40 = .ok (.getfield 10, 3) := by decide +kernel
theorem d_P_become_43 : decode prog_1_method_4_code 43 = .ok (.getfield 70, 3) := by decide +kernel
theorem d_P_become_46 : decode prog_1_method_4_code 46 = .ok (.iload_n 1, 1) := by decide +kernel
theorem d_P_become_47 : decode prog_1_method_4_code 47 = .ok (.iload_n 2, 1) := by decide +kernel
theorem d_P_become_48 : decode prog_1_method_4_code 48 = .ok (.bipush 10, 2) := by decide +kernel
theorem d_P_become_50 : decode prog_1_method_4_code 50 = .ok (.idiv, 1) := by decide +kernel
theorem d_P_become_51 : decode prog_1_method_4_code 51 = .ok (.iload_n 2, 1) := by decide +kernel
theorem d_P_become_52 : decode prog_1_method_4_code 52 = .ok (.bipush 10, 2) := by decide +kernel
theorem d_P_become_54 : decode prog_1_method_4_code 54 = .ok (.irem, 1) := by decide +kernel
theorem d_P_become_55 : decode prog_1_method_4_code 55 = .ok (.invokevirtual 103, 3) := by decide +kernel
theorem d_P_become_58 : decode prog_1_method_4_code 58 = .ok (.iload_n 3, 1) := by decide +kernel
theorem d_P_become_59 : decode prog_1_method_4_code 59 = .ok (.ireturn, 1) := by decide +kernel
theorem d_P_as_0 : decode prog_1_method_5_code 0 = .ok (.aload_n 0, 1) := by decide +kernel
theorem d_P_as_1 : decode prog_1_method_5_code 1 = .ok (.getfield 10, 3) := by decide +kernel
theorem d_P_as_4 : decode prog_1_method_5_code 4 = .ok (.getfield 70, 3) := by decide +kernel
theorem d_P_as_7 : decode prog_1_method_5_code 7 = .ok (.iload_n 1, 1) := by decide +kernel
theorem d_P_as_8 : decode prog_1_method_5_code 8 = .ok (.invokevirtual 84, 3) := by decide +kernel
theorem d_P_as_11 : decode prog_1_method_5_code 11 = .ok (.ifCond .eq 10, 3) := by decide +kernel
theorem d_P_as_14 : decode prog_1_method_5_code 14 = .ok (.iload_n 2, 1) := by decide +kernel
theorem d_P_as_15 : decode prog_1_method_5_code 15 = .ok (.invokestatic 107, 3) := by decide +kernel
theorem d_P_as_18 : decode prog_1_method_5_code 18 = .ok (.ifCond .ne 9, 3) := by decide +kernel
theorem d_P_as_21 : decode prog_1_method_5_code 21 = .ok (.aload_n 0, 1) := by decide +kernel
theorem d_P_as_22 : decode prog_1_method_5_code 22 = .ok (.iconst 1, 1) := by decide +kernel
theorem d_P_as_23 : decode prog_1_method_5_code 23 = .ok (.invokevirtual 66, 3) := by decide +kernel
theorem d_P_as_26 : decode prog_1_method_5_code 26 = .ok (.ireturn, 1) := by decide +kernel
theorem d_P_as_27 : decode prog_1_method_5_code 27 = .ok (.aload_n 0, 1) := by decide +kernel
theorem d_P_as_28 : decode prog_1_method_5_code 28 = .ok (.getfield 10, 3) := by decide +kernel
theorem d_P_as_31 : decode prog_1_method_5_code 31 = .ok (.getfield 70, 3) := by decide +kernel
theorem d_P_as_34 : decode prog_1_method_5_code 34 = .ok (.iload_n 1, 1) := by decide +kernel
theorem d_P_as_35 : decode prog_1_method_5_code 35 = .ok (.invokevirtual 87, 3) := by decide +kernel
theorem d_P_as_38 : decode prog_1_method_5_code 38 = .ok (.iload_n 2, 1) := by decide +kernel
theorem d_P_as_39 : decode prog_1_method_5_code 39 = .ok (.invokestatic 112, 3) := by decide +kernel
theorem d_P_as_42 : decode prog_1_method_5_code 42 = .ok (.ifCond .ne 9, 3) := by decide +kernel
theorem d_P_as_45 : decode prog_1_method_5_code 45 = .ok (.aload_n 0, 1) := by decide +kernel
theorem d_P_as_46 : decode prog_1_method_5_code 46 = .ok (.iconst 5, 1) := by decide +kernel
theorem d_P_as_47 : decode prog_1_method_5_code 47 = .ok (.invokevirtual 66, 3) := by decide +kernel
theorem d_P_as_50 : decode prog_1_method_5_code 50 = .ok (.ireturn, 1) := by decide +kernel
theorem d_P_as_51 : decode prog_1_method_5_code 51 = .ok (.aload_n 0, 1) := by decide +kernel
theorem d_P_as_52 : decode prog_1_method_5_code 52 = .ok (.getfield 10, 3) := by decide +kernel
theorem d_P_as_55 : decode prog_1_method_5_code 55 = .ok (.getfield 70, 3) := by decide +kernel
theorem d_P_as_58 : decode prog_1_method_5_code 58 = .ok (.iload_n 1, 1) := by decide +kernel
theorem d_P_as_59 : decode prog_1_method_5_code 59 = .ok (.invokevirtual 90, 3) := by decide +kernel
theorem d_P_as_62 : decode prog_1_method_5_code 62 = .ok (.ireturn, 1) := by decide +kernel
theorem d_P_leaves_0 : decode prog_1_method_6_code 0 = .ok (.aload_n 0, 1) := by decide +kernel
theorem d_P_leaves_1 : decode prog_1_method_6_code 1 = .ok (.getfield 10, 3) := by decide +kernel
theorem d_P_leaves_4 : decode prog_1_method_6_code 4 = .ok (.getfield 70, 3) := by decide +kernel
theorem d_P_leaves_7 : decode prog_1_method_6_code 7 = .ok (.invokevirtual 116, 3) := by decide +kernel
theorem d_P_leaves_10 : decode prog_1_method_6_code 10 = .ok (.ifCond .ne 9, 3) := by decide +kernel
theorem d_P_leaves_13 : decode prog_1_method_6_code 13 = .ok (.aload_n 0, 1) := by decide +kernel
theorem d_P_leaves_14 : decode prog_1_method_6_code 14 = .ok (.iconst 3, 1) := by decide +kernel
theorem d_P_leaves_15 : decode prog_1_method_6_code 15 = .ok (.invokevirtual 66, 3) := by decide +kernel
theorem d_P_leaves_18 : decode prog_1_method_6_code 18 = .ok (.ireturn, 1) := by decide +kernel
theorem d_P_leaves_19 : decode prog_1_method_6_code 19 = .ok (.aload_n 0, 1) := by decide +kernel
theorem d_P_leaves_20 : decode prog_1_method_6_code 20 = .ok (.getfield 10, 3) := by decide +kernel
theorem d_P_leaves_23 : decode prog_1_method_6_code 23 = .ok (.getfield 70, 3) := by decide +kernel
theorem d_P_leaves_26 : decode prog_1_method_6_code 26 = .ok (.invokevirtual 120, 3) := by decide +kernel
theorem d_P_leaves_29 : decode prog_1_method_6_code 29 = .ok (.aload_n 0, 1) := by decide +kernel
theorem d_P_leaves_30 : decode prog_1_method_6_code 30 = .ok (.getfield 10, 3) := by decide +kernel
theorem d_P_leaves_33 : decode prog_1_method_6_code 33 = .ok (.getfield 70, 3) := by decide +kernel
theorem d_P_leaves_36 : decode prog_1_method_6_code 36 = .ok (.invokevirtual 116, 3) := by decide +kernel
theorem d_P_leaves_39 : decode prog_1_method_6_code 39 = .ok (.ireturn, 1) := by decide +kernel
theorem d_P_car_0 : decode prog_1_method_7_code 0 = .ok (.iload_n 1, 1) := by decide +kernel
theorem d_P_car_1 : decode prog_1_method_7_code 1 = .ok (.iload_n 2, 1) := by decide +kernel
theorem d_P_car_2 : decode prog_1_method_7_code 2 = .ok (.invokestatic 123, 3) := by decide +kernel
theorem d_P_car_5 : decode prog_1_method_7_code 5 = .ok (.ifCond .ne 9, 3) := by decide +kernel
theorem d_P_car_8 : decode prog_1_method_7_code 8 = .ok (.aload_n 0, 1) := by decide +kernel
theorem d_P_car_9 : decode prog_1_method_7_code 9 = .ok (.iconst 1, 1) := by decide +kernel
theorem d_P_car_10 : decode prog_1_method_7_code 10 = .ok (.invokevirtual 66, 3) := by decide +kernel
theorem d_P_car_13 : decode prog_1_method_7_code 13 = .ok (.ireturn, 1) := by decide +kernel
theorem d_P_car_14 : decode prog_1_method_7_code 14 = .ok (.aload_n 0, 1) := by decide +kernel
theorem d_P_car_15 : decode prog_1_method_7_code 15 = .ok (.getfield 10, 3) := by decide +kernel
theorem d_P_car_18 : decode prog_1_method_7_code 18 = .ok (.getfield 93, 3) := by decide +kernel
theorem d_P_car_21 : decode prog_1_method_7_code 21 = .ok (.iload_n 1, 1) := by decide +kernel
theorem d_P_car_22 : decode prog_1_method_7_code 22 = .ok (.invokevirtual 126, 3) := by decide +kernel
theorem d_P_car_25 : decode prog_1_method_7_code 25 = .ok (.istore_n 3, 1) := by decide +kernel
theorem d_P_car_26 : decode prog_1_method_7_code 26 = .ok (.aload_n 0, 1) := by decide +kernel
theorem d_P_car_27 : decode prog_1_method_7_code 27 = .ok (.getfield 10, 3) := by decide +kernel
theorem d_P_car_30 : decode prog_1_method_7_code 30 = .ok (.getfield 93, 3) := by decide +kernel
theorem d_P_car_33 : decode prog_1_method_7_code 33 = .ok (.iload_n 1, 1) := by decide +kernel
theorem d_P_car_34 : decode prog_1_method_7_code 34 = .ok (.iload_n 2, 1) := by decide +kernel
theorem d_P_car_35 : decode prog_1_method_7_code 35 = .ok (.invokevirtual 129, 3) := by decide +kernel
theorem d_P_car_38 : decode prog_1_method_7_code 38 = .ok (.iload_n 3, 1) := by decide +kernel
theorem d_P_car_39 : decode prog_1_method_7_code 39 = .ok (.ireturn, 1) := by decide +kernel
theorem d_P_carIs_0 : decode prog_1_method_8_code 0 = .ok (.iload_n 1, 1) := by decide +kernel
theorem d_P_carIs_1 : decode prog_1_method_8_code 1 = .ok (.iconst 0, 1) := by decide +kernel
theorem d_P_carIs_2 : decode prog_1_method_8_code 2 = .ok (.bipush 6, 2) := by decide +kernel
theorem d_P_carIs_4 : decode prog_1_method_8_code 4 = .ok (.invokestatic 133, 3) := by decide +kernel
theorem d_P_carIs_7 : decode prog_1_method_8_code 7 = .ok (.ifCond .ne 9, 3) := by decide +kernel
theorem d_P_carIs_10 : decode prog_1_method_8_code 10 = .ok (.aload_n 0, 1) := by decide +kernel
theorem d_P_carIs_11 : decode prog_1_method_8_code 11 = .ok (.iconst 1, 1) := by decide +kernel
theorem d_P_carIs_12 : decode prog_1_method_8_code 12 = .ok (.invokevirtual 66, 3) := by decide +kernel
theorem d_P_carIs_15 : decode prog_1_method_8_code 15 = .ok (.ireturn, 1) := by decide +kernel
theorem d_P_carIs_16 : decode prog_1_method_8_code 16 = .ok (.aload_n 0, 1) := by decide +kernel
theorem d_P_carIs_17 : decode prog_1_method_8_code 17 = .ok (.getfield 10, 3) := by decide +kernel
theorem d_P_carIs_20 : decode prog_1_method_8_code 20 = .ok (.getfield 93, 3) := by decide +kernel
theorem d_P_carIs_23 : decode prog_1_method_8_code 23 = .ok (.iload_n 1, 1) := by decide +kernel
theorem d_P_carIs_24 : decode prog_1_method_8_code 24 = .ok (.invokevirtual 126, 3) := by decide +kernel
theorem d_P_carIs_27 : decode prog_1_method_8_code 27 = .ok (.ireturn, 1) := by decide +kernel
theorem d_P_park_0 : decode prog_1_method_9_code 0 = .ok (.iload_n 1, 1) := by decide +kernel
theorem d_P_park_1 : decode prog_1_method_9_code 1 = .ok (.iconst 1, 1) := by decide +kernel
theorem d_P_park_2 : decode prog_1_method_9_code 2 = .ok (.bipush 60, 2) := by decide +kernel
theorem d_P_park_4 : decode prog_1_method_9_code 4 = .ok (.invokestatic 133, 3) := by decide +kernel
theorem d_P_park_7 : decode prog_1_method_9_code 7 = .ok (.ifCond .ne 9, 3) := by decide +kernel
theorem d_P_park_10 : decode prog_1_method_9_code 10 = .ok (.aload_n 0, 1) := by decide +kernel
theorem d_P_park_11 : decode prog_1_method_9_code 11 = .ok (.iconst 1, 1) := by decide +kernel
theorem d_P_park_12 : decode prog_1_method_9_code 12 = .ok (.invokevirtual 66, 3) := by decide +kernel
theorem d_P_park_15 : decode prog_1_method_9_code 15 = .ok (.ireturn, 1) := by decide +kernel
theorem d_P_park_16 : decode prog_1_method_9_code 16 = .ok (.aload_n 0, 1) := by decide +kernel
theorem d_P_park_17 : decode prog_1_method_9_code 17 = .ok (.getfield 10, 3) := by decide +kernel
theorem d_P_park_20 : decode prog_1_method_9_code 20 = .ok (.getfield 93, 3) := by decide +kernel
theorem d_P_park_23 : decode prog_1_method_9_code 23 = .ok (.iload_n 1, 1) := by decide +kernel
theorem d_P_park_24 : decode prog_1_method_9_code 24 = .ok (.invokevirtual 137, 3) := by decide +kernel
theorem d_P_park_27 : decode prog_1_method_9_code 27 = .ok (.aload_n 0, 1) := by decide +kernel
theorem d_P_park_28 : decode prog_1_method_9_code 28 = .ok (.getfield 10, 3) := by decide +kernel
theorem d_P_park_31 : decode prog_1_method_9_code 31 = .ok (.getfield 93, 3) := by decide +kernel
theorem d_P_park_34 : decode prog_1_method_9_code 34 = .ok (.getfield 141, 3) := by decide +kernel
theorem d_P_park_37 : decode prog_1_method_9_code 37 = .ok (.ireturn, 1) := by decide +kernel
theorem d_P_feed_0 : decode prog_1_method_10_code 0 = .ok (.iload_n 3, 1) := by decide +kernel
theorem d_P_feed_1 : decode prog_1_method_10_code 1 = .ok (.iconst 1, 1) := by decide +kernel
theorem d_P_feed_2 : decode prog_1_method_10_code 2 = .ok (.bipush 8, 2) := by decide +kernel
theorem d_P_feed_4 : decode prog_1_method_10_code 4 = .ok (.invokestatic 133, 3) := by decide +kernel
theorem d_P_feed_7 : decode prog_1_method_10_code 7 = .ok (.ifCond .ne 9, 3) := by decide +kernel
theorem d_P_feed_10 : decode prog_1_method_10_code 10 = .ok (.aload_n 0, 1) := by decide +kernel
theorem d_P_feed_11 : decode prog_1_method_10_code 11 = .ok (.iconst 1, 1) := by decide +kernel
theorem d_P_feed_12 : decode prog_1_method_10_code 12 = .ok (.invokevirtual 66, 3) := by decide +kernel
theorem d_P_feed_15 : decode prog_1_method_10_code 15 = .ok (.ireturn, 1) := by decide +kernel
theorem d_P_feed_16 : decode prog_1_method_10_code 16 = .ok (.aload_n 0, 1) := by decide +kernel
theorem d_P_feed_17 : decode prog_1_method_10_code 17 = .ok (.getfield 10, 3) := by decide +kernel
theorem d_P_feed_20 : decode prog_1_method_10_code 20 = .ok (.getfield 144, 3) := by decide +kernel
theorem d_P_feed_23 : decode prog_1_method_10_code 23 = .ok (.iload_n 3, 1) := by decide +kernel
theorem d_P_feed_24 : decode prog_1_method_10_code 24 = .ok (.invokevirtual 148, 3) := by decide +kernel
theorem d_P_feed_27 : decode prog_1_method_10_code 27 = .ok (.ifCond .ne 9, 3) := by decide +kernel
theorem d_P_feed_30 : decode prog_1_method_10_code 30 = .ok (.aload_n 0, 1) := by decide +kernel
theorem d_P_feed_31 : decode prog_1_method_10_code 31 = .ok (.iconst 4, 1) := by decide +kernel
theorem d_P_feed_32 : decode prog_1_method_10_code 32 = .ok (.invokevirtual 66, 3) := by decide +kernel
theorem d_P_feed_35 : decode prog_1_method_10_code 35 = .ok (.ireturn, 1) := by decide +kernel
theorem d_P_feed_36 : decode prog_1_method_10_code 36 = .ok (.iconst 0, 1) := by decide +kernel
theorem d_P_feed_37 : decode prog_1_method_10_code 37 = .ok (.istore 4, 2) := by decide +kernel
theorem d_P_feed_39 : decode prog_1_method_10_code 39 = .ok (.iload 4, 2) := by decide +kernel
theorem d_P_feed_41 : decode prog_1_method_10_code 41 = .ok (.iload_n 3, 1) := by decide +kernel
theorem d_P_feed_42 : decode prog_1_method_10_code 42 = .ok (.if_icmp .ge 31, 3) := by decide +kernel
theorem d_P_feed_45 : decode prog_1_method_10_code 45 = .ok (.aload_n 0, 1) := by decide +kernel
theorem d_P_feed_46 : decode prog_1_method_10_code 46 = .ok (.getfield 10, 3) := by decide +kernel
theorem d_P_feed_49 : decode prog_1_method_10_code 49 = .ok (.getfield 144, 3) := by decide +kernel
theorem d_P_feed_52 : decode prog_1_method_10_code 52 = .ok (.lload_n 1, 1) := by decide +kernel
theorem d_P_feed_53 : decode prog_1_method_10_code 53 = .ok (.bipush 8, 2) := by decide +kernel
theorem d_P_feed_55 : decode prog_1_method_10_code 55 = .ok (.iload 4, 2) := by decide +kernel
theorem d_P_feed_57 : decode prog_1_method_10_code 57 = .ok (.imul, 1) := by decide +kernel
theorem d_P_feed_58 : decode prog_1_method_10_code 58 = .ok (.lushr, 1) := by decide +kernel
theorem d_P_feed_59 : decode prog_1_method_10_code 59 = .ok (.ldc2_w 152, 3) := by decide +kernel
theorem d_P_feed_62 : decode prog_1_method_10_code 62 = .ok (.land, 1) := by decide +kernel
theorem d_P_feed_63 : decode prog_1_method_10_code 63 = .ok (.l2i, 1) := by decide +kernel
theorem d_P_feed_64 : decode prog_1_method_10_code 64 = .ok (.invokevirtual 154, 3) := by decide +kernel
theorem d_P_feed_67 : decode prog_1_method_10_code 67 = .ok (.iinc 4 1, 3) := by decide +kernel
theorem d_P_feed_70 : decode prog_1_method_10_code 70 = .ok (.goto (-31), 3) := by decide +kernel
theorem d_P_feed_73 : decode prog_1_method_10_code 73 = .ok (.aload_n 0, 1) := by decide +kernel
theorem d_P_feed_74 : decode prog_1_method_10_code 74 = .ok (.getfield 10, 3) := by decide +kernel
theorem d_P_feed_77 : decode prog_1_method_10_code 77 = .ok (.getfield 144, 3) := by decide +kernel
theorem d_P_feed_80 : decode prog_1_method_10_code 80 = .ok (.invokevirtual 157, 3) := by decide +kernel
theorem d_P_feed_83 : decode prog_1_method_10_code 83 = .ok (.ireturn, 1) := by decide +kernel
