/-! decode rows (printed by wip/whole/gen4.py) -/
theorem d_R_move_0 : decode prog_13_method_88_code 0 = .ok (.iload_n 1, 1) := by decide +kernel
theorem d_R_move_1 : decode prog_13_method_88_code 1 = .ok (.invokestatic 258, 3) := by decide +kernel
theorem d_R_move_4 : decode prog_13_method_88_code 4 = .ok (.ifCond .eq 10, 3) := by decide +kernel
theorem d_R_move_7 : decode prog_13_method_88_code 7 = .ok (.iload_n 3, 1) := by decide +kernel
theorem d_R_move_8 : decode prog_13_method_88_code 8 = .ok (.invokestatic 258, 3) := by decide +kernel
theorem d_R_move_11 : decode prog_13_method_88_code 11 = .ok (.ifCond .ne 9, 3) := by decide +kernel
theorem d_R_move_14 : decode prog_13_method_88_code 14 = .ok (.aload_n 0, 1) := by decide +kernel
theorem d_R_move_15 : decode prog_13_method_88_code 15 = .ok (.iconst 1, 1) := by decide +kernel
theorem d_R_move_16 : decode prog_13_method_88_code 16 = .ok (.invokevirtual 55, 3) := by decide +kernel
theorem d_R_move_19 : decode prog_13_method_88_code 19 = .ok (.ireturn, 1) := by decide +kernel
theorem d_R_move_20 : decode prog_13_method_88_code 20 = .ok (.aload_n 0, 1) := by decide +kernel
theorem d_R_move_21 : decode prog_13_method_88_code 21 = .ok (.getfield 38, 3) := by decide +kernel
theorem d_R_move_24 : decode prog_13_method_88_code 24 = .ok (.iload_n 1, 1) := by decide +kernel
theorem d_R_move_25 : decode prog_13_method_88_code 25 = .ok (.iaload, 1) := by decide +kernel
theorem d_R_move_26 : decode prog_13_method_88_code 26 = .ok (.ifCond .eq 12, 3) := by decide +kernel
theorem d_R_move_29 : decode prog_13_method_88_code 29 = .ok (.aload_n 0, 1) := by decide +kernel
theorem d_R_move_30 : decode prog_13_method_88_code 30 = .ok (.getfield 38, 3) := by decide +kernel
theorem d_R_move_33 : decode prog_13_method_88_code 33 = .ok (.iload_n 3, 1) := by decide +kernel
theorem d_R_move_34 : decode prog_13_method_88_code 34 = .ok (.iaload, 1) := by decide +kernel
theorem d_R_move_35 : decode prog_13_method_88_code 35 = .ok (.ifCond .ne 9, 3) := by decide +kernel
theorem d_R_move_38 : decode prog_13_method_88_code 38 = .ok (.aload_n 0, 1) := by decide +kernel
theorem d_R_move_39 : decode prog_13_method_88_code 39 = .ok (.iconst 2, 1) := by decide +kernel
theorem d_R_move_40 : decode prog_13_method_88_code 40 = .ok (.invokevirtual 55, 3) := by decide +kernel
theorem d_R_move_43 : decode prog_13_method_88_code 43 = .ok (.ireturn, 1) := by decide +kernel
theorem d_R_move_44 : decode prog_13_method_88_code 44 = .ok (.aload_n 0, 1) := by decide +kernel
theorem d_R_move_45 : decode prog_13_method_88_code 45 = .ok (.getfield 38, 3) := by decide +kernel
theorem d_R_move_48 : decode prog_13_method_88_code 48 = .ok (.iload_n 1, 1) := by decide +kernel
theorem d_R_move_49 : decode prog_13_method_88_code 49 = .ok (.iaload, 1) := by decide +kernel
theorem d_R_move_50 : decode prog_13_method_88_code 50 = .ok (.aload_n 0, 1) := by decide +kernel
theorem d_R_move_51 : decode prog_13_method_88_code 51 = .ok (.getfield 38, 3) := by decide +kernel
theorem d_R_move_54 : decode prog_13_method_88_code 54 = .ok (.iload_n 3, 1) := by decide +kernel
theorem d_R_move_55 : decode prog_13_method_88_code 55 = .ok (.iaload, 1) := by decide +kernel
theorem d_R_move_56 : decode prog_13_method_88_code 56 = .ok (.if_icmp .eq 9, 3) := by decide +kernel
theorem d_R_move_59 : decode prog_13_method_88_code 59 = .ok (.aload_n 0, 1) := by decide +kernel
theorem d_R_move_60 : decode prog_13_method_88_code 60 = .ok (.iconst 5, 1) := by decide +kernel
theorem d_R_move_61 : decode prog_13_method_88_code 61 = .ok (.invokevirtual 55, 3) := by decide +kernel
theorem d_R_move_64 : decode prog_13_method_88_code 64 = .ok (.ireturn, 1) := by decide +kernel
theorem d_R_move_65 : decode prog_13_method_88_code 65 = .ok (.iload 5, 2) := by decide +kernel
theorem d_R_move_67 : decode prog_13_method_88_code 67 = .ok (.ifCond .lt 39, 3) := by decide +kernel
theorem d_R_move_70 : decode prog_13_method_88_code 70 = .ok (.iload_n 2, 1) := by decide +kernel
theorem d_R_move_71 : decode prog_13_method_88_code 71 = .ok (.ifCond .lt 35, 3) := by decide +kernel
theorem d_R_move_74 : decode prog_13_method_88_code 74 = .ok (.iload 4, 2) := by decide +kernel
theorem d_R_move_76 : decode prog_13_method_88_code 76 = .ok (.ifCond .lt 30, 3) := by decide +kernel
theorem d_R_move_79 : decode prog_13_method_88_code 79 = .ok (.iload_n 2, 1) := by decide +kernel
theorem d_R_move_80 : decode prog_13_method_88_code 80 = .ok (.aload_n 0, 1) := by decide +kernel
theorem d_R_move_81 : decode prog_13_method_88_code 81 = .ok (.getfield 41, 3) := by decide +kernel
theorem d_R_move_84 : decode prog_13_method_88_code 84 = .ok (.iload_n 1, 1) := by decide +kernel
theorem d_R_move_85 : decode prog_13_method_88_code 85 = .ok (.iaload, 1) := by decide +kernel
theorem d_R_move_86 : decode prog_13_method_88_code 86 = .ok (.iload 5, 2) := by decide +kernel
theorem d_R_move_88 : decode prog_13_method_88_code 88 = .ok (.isub, 1) := by decide +kernel
theorem d_R_move_89 : decode prog_13_method_88_code 89 = .ok (.if_icmp .gt 17, 3) := by decide +kernel
theorem d_R_move_92 : decode prog_13_method_88_code 92 = .ok (.iload 4, 2) := by decide +kernel
theorem d_R_move_94 : decode prog_13_method_88_code 94 = .ok (.aload_n 0, 1) := by decide +kernel
theorem d_R_move_95 : decode prog_13_method_88_code 95 = .ok (.getfield 41, 3) := by decide +kernel
theorem d_R_move_98 : decode prog_13_method_88_code 98 = .ok (.iload_n 3, 1) := by decide +kernel
theorem d_R_move_99 : decode prog_13_method_88_code 99 = .ok (.iaload, 1) := by decide +kernel
theorem d_R_move_100 : decode prog_13_method_88_code 100 = .ok (.iload 5, 2) := by decide +kernel
theorem d_R_move_102 : decode prog_13_method_88_code 102 = .ok (.isub, 1) := by decide +kernel
theorem d_R_move_103 : decode prog_13_method_88_code 103 = .ok (.if_icmp .le 9, 3) := by decide +kernel
theorem d_R_move_106 : decode prog_13_method_88_code 106 = .ok (.aload_n 0, 1) := by decide +kernel
theorem d_R_move_107 : decode prog_13_method_88_code 107 = .ok (.iconst 1, 1) := by decide +kernel
theorem d_R_move_108 : decode prog_13_method_88_code 108 = .ok (.invokevirtual 55, 3) := by decide +kernel
theorem d_R_move_111 : decode prog_13_method_88_code 111 = .ok (.ireturn, 1) := by decide +kernel
theorem d_R_move_112 : decode prog_13_method_88_code 112 = .ok (.iconst 0, 1) := by decide +kernel
theorem d_R_move_113 : decode prog_13_method_88_code 113 = .ok (.istore 6, 2) := by decide +kernel
theorem d_R_move_115 : decode prog_13_method_88_code 115 = .ok (.iload 6, 2) := by decide +kernel
theorem d_R_move_117 : decode prog_13_method_88_code 117 = .ok (.iload 5, 2) := by decide +kernel
theorem d_R_move_119 : decode prog_13_method_88_code 119 = .ok (.if_icmp .ge 30, 3) := by decide +kernel
theorem d_R_move_122 : decode prog_13_method_88_code 122 = .ok (.aload_n 0, 1) := by decide +kernel
theorem d_R_move_123 : decode prog_13_method_88_code 123 = .ok (.getfield 47, 3) := by decide +kernel
theorem d_R_move_126 : decode prog_13_method_88_code 126 = .ok (.iload 6, 2) := by decide +kernel
theorem d_R_move_128 : decode prog_13_method_88_code 128 = .ok (.aload_n 0, 1) := by decide +kernel
theorem d_R_move_129 : decode prog_13_method_88_code 129 = .ok (.getfield 44, 3) := by decide +kernel
theorem d_R_move_132 : decode prog_13_method_88_code 132 = .ok (.bipush 24, 2) := by decide +kernel
theorem d_R_move_134 : decode prog_13_method_88_code 134 = .ok (.iload_n 1, 1) := by decide +kernel
theorem d_R_move_135 : decode prog_13_method_88_code 135 = .ok (.imul, 1) := by decide +kernel
theorem d_R_move_136 : decode prog_13_method_88_code 136 = .ok (.iload_n 2, 1) := by decide +kernel
theorem d_R_move_137 : decode prog_13_method_88_code 137 = .ok (.iadd, 1) := by decide +kernel
theorem d_R_move_138 : decode prog_13_method_88_code 138 = .ok (.iload 6, 2) := by decide +kernel
theorem d_R_move_140 : decode prog_13_method_88_code 140 = .ok (.iadd, 1) := by decide +kernel
theorem d_R_move_141 : decode prog_13_method_88_code 141 = .ok (.iaload, 1) := by decide +kernel
theorem d_R_move_142 : decode prog_13_method_88_code 142 = .ok (.iastore, 1) := by decide +kernel
theorem d_R_move_143 : decode prog_13_method_88_code 143 = .ok (.iinc 6 1, 3) := by decide +kernel
theorem d_R_move_146 : decode prog_13_method_88_code 146 = .ok (.goto (-31), 3) := by decide +kernel
theorem d_R_move_149 : decode prog_13_method_88_code 149 = .ok (.iconst 0, 1) := by decide +kernel
theorem d_R_move_150 : decode prog_13_method_88_code 150 = .ok (.istore 6, 2) := by decide +kernel
theorem d_R_move_152 : decode prog_13_method_88_code 152 = .ok (.iload 6, 2) := by decide +kernel
theorem d_R_move_154 : decode prog_13_method_88_code 154 = .ok (.iload 5, 2) := by decide +kernel
theorem d_R_move_156 : decode prog_13_method_88_code 156 = .ok (.if_icmp .ge 31, 3) := by decide +kernel
theorem d_R_move_159 : decode prog_13_method_88_code 159 = .ok (.aload_n 0, 1) := by decide +kernel
theorem d_R_move_160 : decode prog_13_method_88_code 160 = .ok (.getfield 44, 3) := by decide +kernel
theorem d_R_move_163 : decode prog_13_method_88_code 163 = .ok (.bipush 24, 2) := by decide +kernel
theorem d_R_move_165 : decode prog_13_method_88_code 165 = .ok (.iload_n 3, 1) := by decide +kernel
theorem d_R_move_166 : decode prog_13_method_88_code 166 = .ok (.imul, 1) := by decide +kernel
theorem d_R_move_167 : decode prog_13_method_88_code 167 = .ok (.iload 4, 2) := by decide +kernel
theorem d_R_move_169 : decode prog_13_method_88_code 169 = .ok (.iadd, 1) := by decide +kernel
theorem d_R_move_170 : decode prog_13_method_88_code 170 = .ok (.iload 6, 2) := by decide +kernel
theorem d_R_move_172 : decode prog_13_method_88_code 172 = .ok (.iadd, 1) := by decide +kernel
theorem d_R_move_173 : decode prog_13_method_88_code 173 = .ok (.aload_n 0, 1) := by decide +kernel
theorem d_R_move_174 : decode prog_13_method_88_code 174 = .ok (.getfield 47, 3) := by decide +kernel
theorem d_R_move_177 : decode prog_13_method_88_code 177 = .ok (.iload 6, 2) := by decide +kernel
theorem d_R_move_179 : decode prog_13_method_88_code 179 = .ok (.iaload, 1) := by decide +kernel
theorem d_R_move_180 : decode prog_13_method_88_code 180 = .ok (.iastore, 1) := by decide +kernel
theorem d_R_move_181 : decode prog_13_method_88_code 181 = .ok (.iinc 6 1, 3) := by decide +kernel
theorem d_R_move_184 : decode prog_13_method_88_code 184 = .ok (.goto (-32), 3) := by decide +kernel
theorem d_R_move_187 : decode prog_13_method_88_code 187 = .ok (.iload 5, 2) := by decide +kernel
theorem d_R_move_189 : decode prog_13_method_88_code 189 = .ok (.ireturn, 1) := by decide +kernel
theorem d_R_lacks_0 : decode prog_13_method_89_code 0 = .ok (.iload_n 1, 1) := by decide +kernel
theorem d_R_lacks_1 : decode prog_13_method_89_code 1 = .ok (.invokestatic 258, 3) := by decide +kernel
theorem d_R_lacks_4 : decode prog_13_method_89_code 4 = .ok (.ifCond .ne 7, 3) := by decide +kernel
theorem d_R_lacks_7 : decode prog_13_method_89_code 7 = .ok (.iconst 1, 1) := by decide +kernel
theorem d_R_lacks_8 : decode prog_13_method_89_code 8 = .ok (.goto 17, 3) := by decide +kernel
theorem d_R_lacks_11 : decode prog_13_method_89_code 11 = .ok (.aload_n 0, 1) := by decide +kernel
theorem d_R_lacks_12 : decode prog_13_method_89_code 12 = .ok (.getfield 38, 3) := by decide +kernel
theorem d_R_lacks_15 : decode prog_13_method_89_code 15 = .ok (.iload_n 1, 1) := by decide +kernel
theorem d_R_lacks_16 : decode prog_13_method_89_code 16 = .ok (.iaload, 1) := by decide +kernel
theorem d_R_lacks_17 : decode prog_13_method_89_code 17 = .ok (.ifCond .ne 7, 3) := by decide +kernel
theorem d_R_lacks_20 : decode prog_13_method_89_code 20 = .ok (.iconst 2, 1) := by decide +kernel
theorem d_R_lacks_21 : decode prog_13_method_89_code 21 = .ok (.goto 4, 3) := by decide +kernel
theorem d_R_lacks_24 : decode prog_13_method_89_code 24 = .ok (.iconst 0, 1) := by decide +kernel
theorem d_R_lacks_25 : decode prog_13_method_89_code 25 = .ok (.ireturn, 1) := by decide +kernel
theorem d_R_levels_0 : decode prog_13_method_90_code 0 = .ok (.aload_n 0, 1) := by decide +kernel
theorem d_R_levels_1 : decode prog_13_method_90_code 1 = .ok (.iload_n 1, 1) := by decide +kernel
theorem d_R_levels_2 : decode prog_13_method_90_code 2 = .ok (.invokevirtual 218, 3) := by decide +kernel
theorem d_R_levels_5 : decode prog_13_method_90_code 5 = .ok (.istore_n 2, 1) := by decide +kernel
theorem d_R_levels_6 : decode prog_13_method_90_code 6 = .ok (.iload_n 2, 1) := by decide +kernel
theorem d_R_levels_7 : decode prog_13_method_90_code 7 = .ok (.ifCond .eq 9, 3) := by decide +kernel
theorem d_R_levels_10 : decode prog_13_method_90_code 10 = .ok (.aload_n 0, 1) := by decide +kernel
theorem d_R_levels_11 : decode prog_13_method_90_code 11 = .ok (.iload_n 2, 1) := by decide +kernel
theorem d_R_levels_12 : decode prog_13_method_90_code 12 = .ok (.invokevirtual 55, 3) := by decide +kernel
theorem d_R_levels_15 : decode prog_13_method_90_code 15 = .ok (.ireturn, 1) := by decide +kernel
theorem d_R_levels_16 : decode prog_13_method_90_code 16 = .ok (.iconst 0, 1) := by decide +kernel
theorem d_R_levels_17 : decode prog_13_method_90_code 17 = .ok (.istore_n 3, 1) := by decide +kernel
theorem d_R_levels_18 : decode prog_13_method_90_code 18 = .ok (.iload_n 3, 1) := by decide +kernel
theorem d_R_levels_19 : decode prog_13_method_90_code 19 = .ok (.aload_n 0, 1) := by decide +kernel
theorem d_R_levels_20 : decode prog_13_method_90_code 20 = .ok (.getfield 41, 3) := by decide +kernel
theorem d_R_levels_23 : decode prog_13_method_90_code 23 = .ok (.iload_n 1, 1) := by decide +kernel
theorem d_R_levels_24 : decode prog_13_method_90_code 24 = .ok (.iaload, 1) := by decide +kernel
theorem d_R_levels_25 : decode prog_13_method_90_code 25 = .ok (.if_icmp .ge 54, 3) := by decide +kernel
theorem d_R_levels_28 : decode prog_13_method_90_code 28 = .ok (.aload_n 0, 1) := by decide +kernel
theorem d_R_levels_29 : decode prog_13_method_90_code 29 = .ok (.iload_n 3, 1) := by decide +kernel
theorem d_R_levels_30 : decode prog_13_method_90_code 30 = .ok (.invokevirtual 168, 3) := by decide +kernel
theorem d_R_levels_33 : decode prog_13_method_90_code 33 = .ok (.ifCond .eq 46, 3) := by decide +kernel
theorem d_R_levels_36 : decode prog_13_method_90_code 36 = .ok (.aload_n 0, 1) := by decide +kernel
theorem d_R_levels_37 : decode prog_13_method_90_code 37 = .ok (.getfield 44, 3) := by decide +kernel
theorem d_R_levels_40 : decode prog_13_method_90_code 40 = .ok (.bipush 24, 2) := by decide +kernel
theorem d_R_levels_42 : decode prog_13_method_90_code 42 = .ok (.iload_n 1, 1) := by decide +kernel
theorem d_R_levels_43 : decode prog_13_method_90_code 43 = .ok (.imul, 1) := by decide +kernel
theorem d_R_levels_44 : decode prog_13_method_90_code 44 = .ok (.iload_n 3, 1) := by decide +kernel
theorem d_R_levels_45 : decode prog_13_method_90_code 45 = .ok (.iadd, 1) := by decide +kernel
theorem d_R_levels_46 : decode prog_13_method_90_code 46 = .ok (.iaload, 1) := by decide +kernel
theorem d_R_levels_47 : decode prog_13_method_90_code 47 = .ok (.iconst 0, 1) := by decide +kernel
theorem d_R_levels_48 : decode prog_13_method_90_code 48 = .ok (.bipush 9, 2) := by decide +kernel
theorem d_R_levels_50 : decode prog_13_method_90_code 50 = .ok (.invokestatic 51, 3) := by decide +kernel
theorem d_R_levels_53 : decode prog_13_method_90_code 53 = .ok (.ifCond .eq 26, 3) := by decide +kernel
theorem d_R_levels_56 : decode prog_13_method_90_code 56 = .ok (.aload_n 0, 1) := by decide +kernel
theorem d_R_levels_57 : decode prog_13_method_90_code 57 = .ok (.iload_n 3, 1) := by decide +kernel
theorem d_R_levels_58 : decode prog_13_method_90_code 58 = .ok (.iconst 1, 1) := by decide +kernel
theorem d_R_levels_59 : decode prog_13_method_90_code 59 = .ok (.aload_n 0, 1) := by decide +kernel
theorem d_R_levels_60 : decode prog_13_method_90_code 60 = .ok (.getfield 44, 3) := by decide +kernel
theorem d_R_levels_63 : decode prog_13_method_90_code 63 = .ok (.bipush 24, 2) := by decide +kernel
theorem d_R_levels_65 : decode prog_13_method_90_code 65 = .ok (.iload_n 1, 1) := by decide +kernel
theorem d_R_levels_66 : decode prog_13_method_90_code 66 = .ok (.imul, 1) := by decide +kernel
theorem d_R_levels_67 : decode prog_13_method_90_code 67 = .ok (.iload_n 3, 1) := by decide +kernel
theorem d_R_levels_68 : decode prog_13_method_90_code 68 = .ok (.iadd, 1) := by decide +kernel
theorem d_R_levels_69 : decode prog_13_method_90_code 69 = .ok (.iaload, 1) := by decide +kernel
theorem d_R_levels_70 : decode prog_13_method_90_code 70 = .ok (.invokevirtual 164, 3) := by decide +kernel
theorem d_R_levels_73 : decode prog_13_method_90_code 73 = .ok (.iinc 3 1, 3) := by decide +kernel
theorem d_R_levels_76 : decode prog_13_method_90_code 76 = .ok (.goto (-58), 3) := by decide +kernel
theorem d_R_levels_79 : decode prog_13_method_90_code 79 = .ok (.iload_n 3, 1) := by decide +kernel
theorem d_R_levels_80 : decode prog_13_method_90_code 80 = .ok (.ireturn, 1) := by decide +kernel
theorem d_R_judge_0 : decode prog_13_method_91_code 0 = .ok (.aload_n 0, 1) := by decide +kernel
theorem d_R_judge_1 : decode prog_13_method_91_code 1 = .ok (.iload_n 1, 1) := by decide +kernel
theorem d_R_judge_2 : decode prog_13_method_91_code 2 = .ok (.invokevirtual 218, 3) := by decide +kernel
theorem d_R_judge_5 : decode prog_13_method_91_code 5 = .ok (.istore_n 2, 1) := by decide +kernel
theorem d_R_judge_6 : decode prog_13_method_91_code 6 = .ok (.iload_n 2, 1) := by decide +kernel
theorem d_R_judge_7 : decode prog_13_method_91_code 7 = .ok (.ifCond .eq 9, 3) := by decide +kernel
theorem d_R_judge_10 : decode prog_13_method_91_code 10 = .ok (.aload_n 0, 1) := by decide +kernel
theorem d_R_judge_11 : decode prog_13_method_91_code 11 = .ok (.iload_n 2, 1) := by decide +kernel
theorem d_R_judge_12 : decode prog_13_method_91_code 12 = .ok (.invokevirtual 55, 3) := by decide +kernel
theorem d_R_judge_15 : decode prog_13_method_91_code 15 = .ok (.ireturn, 1) := by decide +kernel
theorem d_R_judge_16 : decode prog_13_method_91_code 16 = .ok (.aload_n 0, 1) := by decide +kernel
theorem d_R_judge_17 : decode prog_13_method_91_code 17 = .ok (.invokevirtual 149, 3) := by decide +kernel
theorem d_R_judge_20 : decode prog_13_method_91_code 20 = .ok (.iconst 0, 1) := by decide +kernel
theorem d_R_judge_21 : decode prog_13_method_91_code 21 = .ok (.istore_n 3, 1) := by decide +kernel
theorem d_R_judge_22 : decode prog_13_method_91_code 22 = .ok (.iconst 1, 1) := by decide +kernel
theorem d_R_judge_23 : decode prog_13_method_91_code 23 = .ok (.istore 4, 2) := by decide +kernel
theorem d_R_judge_25 : decode prog_13_method_91_code 25 = .ok (.iload 4, 2) := by decide +kernel
theorem d_R_judge_27 : decode prog_13_method_91_code 27 = .ok (.ifCond .eq 76, 3) := by decide +kernel
theorem d_R_judge_30 : decode prog_13_method_91_code 30 = .ok (.iload_n 3, 1) := by decide +kernel
theorem d_R_judge_31 : decode prog_13_method_91_code 31 = .ok (.aload_n 0, 1) := by decide +kernel
theorem d_R_judge_32 : decode prog_13_method_91_code 32 = .ok (.getfield 41, 3) := by decide +kernel
theorem d_R_judge_35 : decode prog_13_method_91_code 35 = .ok (.iload_n 1, 1) := by decide +kernel
theorem d_R_judge_36 : decode prog_13_method_91_code 36 = .ok (.iaload, 1) := by decide +kernel
theorem d_R_judge_37 : decode prog_13_method_91_code 37 = .ok (.if_icmp .ge 66, 3) := by decide +kernel
theorem d_R_judge_40 : decode prog_13_method_91_code 40 = .ok (.aload_n 0, 1) := by decide +kernel
theorem d_R_judge_41 : decode prog_13_method_91_code 41 = .ok (.invokevirtual 152, 3) := by decide +kernel
theorem d_R_judge_44 : decode prog_13_method_91_code 44 = .ok (.ifCond .ne 59, 3) := by decide +kernel
theorem d_R_judge_47 : decode prog_13_method_91_code 47 = .ok (.aload_n 0, 1) := by decide +kernel
theorem d_R_judge_48 : decode prog_13_method_91_code 48 = .ok (.aload_n 0, 1) := by decide +kernel
theorem d_R_judge_49 : decode prog_13_method_91_code 49 = .ok (.invokevirtual 187, 3) := by decide +kernel
theorem d_R_judge_52 : decode prog_13_method_91_code 52 = .ok (.bipush 10, 2) := by decide +kernel
theorem d_R_judge_54 : decode prog_13_method_91_code 54 = .ok (.irem, 1) := by decide +kernel
theorem d_R_judge_55 : decode prog_13_method_91_code 55 = .ok (.invokevirtual 155, 3) := by decide +kernel
theorem d_R_judge_58 : decode prog_13_method_91_code 58 = .ok (.istore 5, 2) := by decide +kernel
theorem d_R_judge_60 : decode prog_13_method_91_code 60 = .ok (.aload_n 0, 1) := by decide +kernel
theorem d_R_judge_61 : decode prog_13_method_91_code 61 = .ok (.getfield 7, 3) := by decide +kernel
theorem d_R_judge_64 : decode prog_13_method_91_code 64 = .ok (.iconst 2, 1) := by decide +kernel
theorem d_R_judge_65 : decode prog_13_method_91_code 65 = .ok (.iaload, 1) := by decide +kernel
theorem d_R_judge_66 : decode prog_13_method_91_code 66 = .ok (.aload_n 0, 1) := by decide +kernel
theorem d_R_judge_67 : decode prog_13_method_91_code 67 = .ok (.getfield 44, 3) := by decide +kernel
theorem d_R_judge_70 : decode prog_13_method_91_code 70 = .ok (.bipush 24, 2) := by decide +kernel
theorem d_R_judge_72 : decode prog_13_method_91_code 72 = .ok (.iload_n 1, 1) := by decide +kernel
theorem d_R_judge_73 : decode prog_13_method_91_code 73 = .ok (.imul, 1) := by decide +kernel
theorem d_R_judge_74 : decode prog_13_method_91_code 74 = .ok (.iload_n 3, 1) := by decide +kernel
theorem d_R_judge_75 : decode prog_13_method_91_code 75 = .ok (.iadd, 1) := by decide +kernel
theorem d_R_judge_76 : decode prog_13_method_91_code 76 = .ok (.iaload, 1) := by decide +kernel
theorem d_R_judge_77 : decode prog_13_method_91_code 77 = .ok (.if_icmp .ne 7, 3) := by decide +kernel
theorem d_R_judge_80 : decode prog_13_method_91_code 80 = .ok (.iconst 1, 1) := by decide +kernel
theorem d_R_judge_81 : decode prog_13_method_91_code 81 = .ok (.goto 4, 3) := by decide +kernel
theorem d_R_judge_84 : decode prog_13_method_91_code 84 = .ok (.iconst 0, 1) := by decide +kernel
theorem d_R_judge_85 : decode prog_13_method_91_code 85 = .ok (.istore 4, 2) := by decide +kernel
theorem d_R_judge_87 : decode prog_13_method_91_code 87 = .ok (.iload_n 3, 1) := by decide +kernel
theorem d_R_judge_88 : decode prog_13_method_91_code 88 = .ok (.iload 4, 2) := by decide +kernel
theorem d_R_judge_90 : decode prog_13_method_91_code 90 = .ok (.ifCond .eq 7, 3) := by decide +kernel
theorem d_R_judge_93 : decode prog_13_method_91_code 93 = .ok (.iconst 1, 1) := by decide +kernel
theorem d_R_judge_94 : decode prog_13_method_91_code 94 = .ok (.goto 4, 3) := by decide +kernel
theorem d_R_judge_97 : decode prog_13_method_91_code 97 = .ok (.iconst 0, 1) := by decide +kernel
theorem d_R_judge_98 : decode prog_13_method_91_code 98 = .ok (.iadd, 1) := by decide +kernel
theorem d_R_judge_99 : decode prog_13_method_91_code 99 = .ok (.istore_n 3, 1) := by decide +kernel
theorem d_R_judge_100 : decode prog_13_method_91_code 100 = .ok (.goto (-75), 3) := by decide +kernel
theorem d_R_judge_103 : decode prog_13_method_91_code 103 = .ok (.aload_n 0, 1) := by decide +kernel
theorem d_R_judge_104 : decode prog_13_method_91_code 104 = .ok (.invokevirtual 158, 3) := by decide +kernel
theorem d_R_judge_107 : decode prog_13_method_91_code 107 = .ok (.iload_n 3, 1) := by decide +kernel
theorem d_R_judge_108 : decode prog_13_method_91_code 108 = .ok (.ireturn, 1) := by decide +kernel
theorem d_R_image_0 : decode prog_13_method_92_code 0 = .ok (.aload_n 0, 1) := by decide +kernel
theorem d_R_image_1 : decode prog_13_method_92_code 1 = .ok (.getfield 7, 3) := by decide +kernel
theorem d_R_image_4 : decode prog_13_method_92_code 4 = .ok (.aload_n 0, 1) := by decide +kernel
theorem d_R_image_5 : decode prog_13_method_92_code 5 = .ok (.getfield 13, 3) := by decide +kernel
theorem d_R_image_8 : decode prog_13_method_92_code 8 = .ok (.invokestatic 261, 3) := by decide +kernel
theorem d_R_image_11 : decode prog_13_method_92_code 11 = .ok (.aload_n 0, 1) := by decide +kernel
theorem d_R_image_12 : decode prog_13_method_92_code 12 = .ok (.dup, 1) := by decide +kernel
theorem d_R_image_13 : decode prog_13_method_92_code 13 = .ok (.getfield 265, 3) := by decide +kernel
theorem d_R_image_16 : decode prog_13_method_92_code 16 = .ok (.iconst 1, 1) := by decide +kernel
theorem d_R_image_17 : decode prog_13_method_92_code 17 = .ok (.iadd, 1) := by decide +kernel
theorem d_R_image_18 : decode prog_13_method_92_code 18 = .ok (.putfield 265, 3) := by decide +kernel
theorem d_R_image_21 : decode prog_13_method_92_code 21 = .ok (.aload_n 0, 1) := by decide +kernel
theorem d_R_image_22 : decode prog_13_method_92_code 22 = .ok (.getfield 265, 3) := by decide +kernel
theorem d_R_image_25 : decode prog_13_method_92_code 25 = .ok (.ireturn, 1) := by decide +kernel
theorem d_R_restore_0 : decode prog_13_method_93_code 0 = .ok (.aload_n 0, 1) := by decide +kernel
theorem d_R_restore_1 : decode prog_13_method_93_code 1 = .ok (.getfield 265, 3) := by decide +kernel
theorem d_R_restore_4 : decode prog_13_method_93_code 4 = .ok (.ifCond .ne 9, 3) := by decide +kernel
theorem d_R_restore_7 : decode prog_13_method_93_code 7 = .ok (.aload_n 0, 1) := by decide +kernel
theorem d_R_restore_8 : decode prog_13_method_93_code 8 = .ok (.iconst 2, 1) := by decide +kernel
theorem d_R_restore_9 : decode prog_13_method_93_code 9 = .ok (.invokevirtual 55, 3) := by decide +kernel
theorem d_R_restore_12 : decode prog_13_method_93_code 12 = .ok (.ireturn, 1) := by decide +kernel
theorem d_R_restore_13 : decode prog_13_method_93_code 13 = .ok (.aload_n 0, 1) := by decide +kernel
theorem d_R_restore_14 : decode prog_13_method_93_code 14 = .ok (.getfield 13, 3) := by decide +kernel
theorem d_R_restore_17 : decode prog_13_method_93_code 17 = .ok (.aload_n 0, 1) := by decide +kernel
theorem d_R_restore_18 : decode prog_13_method_93_code 18 = .ok (.getfield 7, 3) := by decide +kernel
theorem d_R_restore_21 : decode prog_13_method_93_code 21 = .ok (.invokestatic 261, 3) := by decide +kernel
theorem d_R_restore_24 : decode prog_13_method_93_code 24 = .ok (.aload_n 0, 1) := by decide +kernel
theorem d_R_restore_25 : decode prog_13_method_93_code 25 = .ok (.getfield 7, 3) := by decide +kernel
theorem d_R_restore_28 : decode prog_13_method_93_code 28 = .ok (.bipush 7, 2) := by decide +kernel
theorem d_R_restore_30 : decode prog_13_method_93_code 30 = .ok (.iaload, 1) := by decide +kernel
theorem d_R_restore_31 : decode prog_13_method_93_code 31 = .ok (.ireturn, 1) := by decide +kernel
theorem d_R_tell_0 : decode prog_13_method_94_code 0 = .ok (.aload_n 0, 1) := by decide +kernel
theorem d_R_tell_1 : decode prog_13_method_94_code 1 = .ok (.getfield 7, 3) := by decide +kernel
theorem d_R_tell_4 : decode prog_13_method_94_code 4 = .ok (.bipush 10, 2) := by decide +kernel
theorem d_R_tell_6 : decode prog_13_method_94_code 6 = .ok (.iaload, 1) := by decide +kernel
theorem d_R_tell_7 : decode prog_13_method_94_code 7 = .ok (.bipush 24, 2) := by decide +kernel
theorem d_R_tell_9 : decode prog_13_method_94_code 9 = .ok (.if_icmp .ne 9, 3) := by decide +kernel
theorem d_R_tell_12 : decode prog_13_method_94_code 12 = .ok (.aload_n 0, 1) := by decide +kernel
theorem d_R_tell_13 : decode prog_13_method_94_code 13 = .ok (.iconst 4, 1) := by decide +kernel
theorem d_R_tell_14 : decode prog_13_method_94_code 14 = .ok (.invokevirtual 55, 3) := by decide +kernel
theorem d_R_tell_17 : decode prog_13_method_94_code 17 = .ok (.ireturn, 1) := by decide +kernel
theorem d_R_tell_18 : decode prog_13_method_94_code 18 = .ok (.aload_n 0, 1) := by decide +kernel
theorem d_R_tell_19 : decode prog_13_method_94_code 19 = .ok (.getfield 7, 3) := by decide +kernel
theorem d_R_tell_22 : decode prog_13_method_94_code 22 = .ok (.sipush 334, 3) := by decide +kernel
theorem d_R_tell_25 : decode prog_13_method_94_code 25 = .ok (.aload_n 0, 1) := by decide +kernel
theorem d_R_tell_26 : decode prog_13_method_94_code 26 = .ok (.getfield 7, 3) := by decide +kernel
theorem d_R_tell_29 : decode prog_13_method_94_code 29 = .ok (.bipush 10, 2) := by decide +kernel
theorem d_R_tell_31 : decode prog_13_method_94_code 31 = .ok (.iaload, 1) := by decide +kernel
theorem d_R_tell_32 : decode prog_13_method_94_code 32 = .ok (.iadd, 1) := by decide +kernel
theorem d_R_tell_33 : decode prog_13_method_94_code 33 = .ok (.iload_n 1, 1) := by decide +kernel
theorem d_R_tell_34 : decode prog_13_method_94_code 34 = .ok (.iastore, 1) := by decide +kernel
theorem d_R_tell_35 : decode prog_13_method_94_code 35 = .ok (.aload_n 0, 1) := by decide +kernel
theorem d_R_tell_36 : decode prog_13_method_94_code 36 = .ok (.getfield 7, 3) := by decide +kernel
theorem d_R_tell_39 : decode prog_13_method_94_code 39 = .ok (.bipush 10, 2) := by decide +kernel
theorem d_R_tell_41 : decode prog_13_method_94_code 41 = .ok (.dup2, 1) := by decide +kernel
theorem d_R_tell_42 : decode prog_13_method_94_code 42 = .ok (.iaload, 1) := by decide +kernel
theorem d_R_tell_43 : decode prog_13_method_94_code 43 = .ok (.iconst 1, 1) := by decide +kernel
theorem d_R_tell_44 : decode prog_13_method_94_code 44 = .ok (.iadd, 1) := by decide +kernel
theorem d_R_tell_45 : decode prog_13_method_94_code 45 = .ok (.iastore, 1) := by decide +kernel
theorem d_R_tell_46 : decode prog_13_method_94_code 46 = .ok (.aload_n 0, 1) := by decide +kernel
theorem d_R_tell_47 : decode prog_13_method_94_code 47 = .ok (.getfield 7, 3) := by decide +kernel
theorem d_R_tell_50 : decode prog_13_method_94_code 50 = .ok (.bipush 10, 2) := by decide +kernel
theorem d_R_tell_52 : decode prog_13_method_94_code 52 = .ok (.iaload, 1) := by decide +kernel
theorem d_R_tell_53 : decode prog_13_method_94_code 53 = .ok (.ireturn, 1) := by decide +kernel
theorem d_R_check_0 : decode prog_13_method_95_code 0 = .ok (.aload_n 0, 1) := by decide +kernel
theorem d_R_check_1 : decode prog_13_method_95_code 1 = .ok (.getfield 7, 3) := by decide +kernel
theorem d_R_check_4 : decode prog_13_method_95_code 4 = .ok (.bipush 10, 2) := by decide +kernel
theorem d_R_check_6 : decode prog_13_method_95_code 6 = .ok (.iaload, 1) := by decide +kernel
theorem d_R_check_7 : decode prog_13_method_95_code 7 = .ok (.istore_n 1, 1) := by decide +kernel
theorem d_R_check_8 : decode prog_13_method_95_code 8 = .ok (.aload_n 0, 1) := by decide +kernel
theorem d_R_check_9 : decode prog_13_method_95_code 9 = .ok (.getfield 7, 3) := by decide +kernel
theorem d_R_check_12 : decode prog_13_method_95_code 12 = .ok (.bipush 10, 2) := by decide +kernel
theorem d_R_check_14 : decode prog_13_method_95_code 14 = .ok (.iconst 0, 1) := by decide +kernel
theorem d_R_check_15 : decode prog_13_method_95_code 15 = .ok (.iastore, 1) := by decide +kernel
theorem d_R_check_16 : decode prog_13_method_95_code 16 = .ok (.iconst 0, 1) := by decide +kernel
theorem d_R_check_17 : decode prog_13_method_95_code 17 = .ok (.istore_n 2, 1) := by decide +kernel
theorem d_R_check_18 : decode prog_13_method_95_code 18 = .ok (.iload_n 2, 1) := by decide +kernel
theorem d_R_check_19 : decode prog_13_method_95_code 19 = .ok (.iload_n 1, 1) := by decide +kernel
theorem d_R_check_20 : decode prog_13_method_95_code 20 = .ok (.if_icmp .ge 39, 3) := by decide +kernel
theorem d_R_check_23 : decode prog_13_method_95_code 23 = .ok (.aload_n 0, 1) := by decide +kernel
theorem d_R_check_24 : decode prog_13_method_95_code 24 = .ok (.iload_n 2, 1) := by decide +kernel
theorem d_R_check_25 : decode prog_13_method_95_code 25 = .ok (.invokevirtual 168, 3) := by decide +kernel
theorem d_R_check_28 : decode prog_13_method_95_code 28 = .ok (.ifCond .eq 21, 3) := by decide +kernel
theorem d_R_check_31 : decode prog_13_method_95_code 31 = .ok (.aload_n 0, 1) := by decide +kernel
theorem d_R_check_32 : decode prog_13_method_95_code 32 = .ok (.getfield 7, 3) := by decide +kernel
theorem d_R_check_35 : decode prog_13_method_95_code 35 = .ok (.sipush 334, 3) := by decide +kernel
theorem d_R_check_38 : decode prog_13_method_95_code 38 = .ok (.iload_n 2, 1) := by decide +kernel
theorem d_R_check_39 : decode prog_13_method_95_code 39 = .ok (.iadd, 1) := by decide +kernel
theorem d_R_check_40 : decode prog_13_method_95_code 40 = .ok (.iaload, 1) := by decide +kernel
theorem d_R_check_41 : decode prog_13_method_95_code 41 = .ok (.aload_n 0, 1) := by decide +kernel
theorem d_R_check_42 : decode prog_13_method_95_code 42 = .ok (.iload_n 2, 1) := by decide +kernel
theorem d_R_check_43 : decode prog_13_method_95_code 43 = .ok (.invokevirtual 118, 3) := by decide +kernel
theorem d_R_check_46 : decode prog_13_method_95_code 46 = .ok (.if_icmp .eq 7, 3) := by decide +kernel
theorem d_R_check_49 : decode prog_13_method_95_code 49 = .ok (.iconst 1, 1) := by decide +kernel
theorem d_R_check_50 : decode prog_13_method_95_code 50 = .ok (.iload_n 2, 1) := by decide +kernel
theorem d_R_check_51 : decode prog_13_method_95_code 51 = .ok (.iadd, 1) := by decide +kernel
theorem d_R_check_52 : decode prog_13_method_95_code 52 = .ok (.ireturn, 1) := by decide +kernel
theorem d_R_check_53 : decode prog_13_method_95_code 53 = .ok (.iinc 2 1, 3) := by decide +kernel
theorem d_R_check_56 : decode prog_13_method_95_code 56 = .ok (.goto (-38), 3) := by decide +kernel
theorem d_R_check_59 : decode prog_13_method_95_code 59 = .ok (.iconst 0, 1) := by decide +kernel
theorem d_R_check_60 : decode prog_13_method_95_code 60 = .ok (.ireturn, 1) := by decide +kernel
theorem d_R_count_0 : decode prog_13_method_96_code 0 = .ok (.iload_n 1, 1) := by decide +kernel
theorem d_R_count_1 : decode prog_13_method_96_code 1 = .ok (.tableswitch 84 0 5 #[39, 47, 55, 63, 71, 76], 39) := by decide +kernel
theorem d_R_count_40 : decode prog_13_method_96_code 40 = .ok (.aload_n 0, 1) := by decide +kernel
theorem d_R_count_41 : decode prog_13_method_96_code 41 = .ok (.getfield 7, 3) := by decide +kernel
theorem d_R_count_44 : decode prog_13_method_96_code 44 = .ok (.bipush 11, 2) := by decide +kernel
theorem d_R_count_46 : decode prog_13_method_96_code 46 = .ok (.iaload, 1) := by decide +kernel
theorem d_R_count_47 : decode prog_13_method_96_code 47 = .ok (.ireturn, 1) := by decide +kernel
theorem d_R_count_48 : decode prog_13_method_96_code 48 = .ok (.aload_n 0, 1) := by decide +kernel
theorem d_R_count_49 : decode prog_13_method_96_code 49 = .ok (.getfield 7, 3) := by decide +kernel
theorem d_R_count_52 : decode prog_13_method_96_code 52 = .ok (.bipush 7, 2) := by decide +kernel
theorem d_R_count_54 : decode prog_13_method_96_code 54 = .ok (.iaload, 1) := by decide +kernel
theorem d_R_count_55 : decode prog_13_method_96_code 55 = .ok (.ireturn, 1) := by decide +kernel
theorem d_R_count_56 : decode prog_13_method_96_code 56 = .ok (.aload_n 0, 1) := by decide +kernel
theorem d_R_count_57 : decode prog_13_method_96_code 57 = .ok (.getfield 7, 3) := by decide +kernel
theorem d_R_count_60 : decode prog_13_method_96_code 60 = .ok (.bipush 9, 2) := by decide +kernel
theorem d_R_count_62 : decode prog_13_method_96_code 62 = .ok (.iaload, 1) := by decide +kernel
theorem d_R_count_63 : decode prog_13_method_96_code 63 = .ok (.ireturn, 1) := by decide +kernel
theorem d_R_count_64 : decode prog_13_method_96_code 64 = .ok (.aload_n 0, 1) := by decide +kernel
theorem d_R_count_65 : decode prog_13_method_96_code 65 = .ok (.getfield 7, 3) := by decide +kernel
theorem d_R_count_68 : decode prog_13_method_96_code 68 = .ok (.bipush 10, 2) := by decide +kernel
theorem d_R_count_70 : decode prog_13_method_96_code 70 = .ok (.iaload, 1) := by decide +kernel
theorem d_R_count_71 : decode prog_13_method_96_code 71 = .ok (.ireturn, 1) := by decide +kernel
theorem d_R_count_72 : decode prog_13_method_96_code 72 = .ok (.aload_n 0, 1) := by decide +kernel
theorem d_R_count_73 : decode prog_13_method_96_code 73 = .ok (.getfield 227, 3) := by decide +kernel
theorem d_R_count_76 : decode prog_13_method_96_code 76 = .ok (.ireturn, 1) := by decide +kernel
theorem d_R_count_77 : decode prog_13_method_96_code 77 = .ok (.aload_n 0, 1) := by decide +kernel
theorem d_R_count_78 : decode prog_13_method_96_code 78 = .ok (.getfield 7, 3) := by decide +kernel
theorem d_R_count_81 : decode prog_13_method_96_code 81 = .ok (.bipush 8, 2) := by decide +kernel
theorem d_R_count_83 : decode prog_13_method_96_code 83 = .ok (.iaload, 1) := by decide +kernel
theorem d_R_count_84 : decode prog_13_method_96_code 84 = .ok (.ireturn, 1) := by decide +kernel
theorem d_R_count_85 : decode prog_13_method_96_code 85 = .ok (.aload_n 0, 1) := by decide +kernel
theorem d_R_count_86 : decode prog_13_method_96_code 86 = .ok (.iconst 1, 1) := by decide +kernel
theorem d_R_count_87 : decode prog_13_method_96_code 87 = .ok (.invokevirtual 55, 3) := by decide +kernel
theorem d_R_count_90 : decode prog_13_method_96_code 90 = .ok (.ireturn, 1) := by decide +kernel
theorem d_R_told_0 : decode prog_13_method_97_code 0 = .ok (.iload_n 1, 1) := by decide +kernel
theorem d_R_told_1 : decode prog_13_method_97_code 1 = .ok (.iconst 1, 1) := by decide +kernel
theorem d_R_told_2 : decode prog_13_method_97_code 2 = .ok (.bipush 6, 2) := by decide +kernel
theorem d_R_told_4 : decode prog_13_method_97_code 4 = .ok (.invokestatic 51, 3) := by decide +kernel
theorem d_R_told_7 : decode prog_13_method_97_code 7 = .ok (.ifCond .eq 12, 3) := by decide +kernel
theorem d_R_told_10 : decode prog_13_method_97_code 10 = .ok (.aload_n 0, 1) := by decide +kernel
theorem d_R_told_11 : decode prog_13_method_97_code 11 = .ok (.getfield 19, 3) := by decide +kernel
theorem d_R_told_14 : decode prog_13_method_97_code 14 = .ok (.iload_n 1, 1) := by decide +kernel
theorem d_R_told_15 : decode prog_13_method_97_code 15 = .ok (.iaload, 1) := by decide +kernel
theorem d_R_told_16 : decode prog_13_method_97_code 16 = .ok (.goto 8, 3) := by decide +kernel
theorem d_R_told_19 : decode prog_13_method_97_code 19 = .ok (.aload_n 0, 1) := by decide +kernel
theorem d_R_told_20 : decode prog_13_method_97_code 20 = .ok (.iconst 1, 1) := by decide +kernel
theorem d_R_told_21 : decode prog_13_method_97_code 21 = .ok (.invokevirtual 55, 3) := by decide +kernel
theorem d_R_told_24 : decode prog_13_method_97_code 24 = .ok (.ireturn, 1) := by decide +kernel
theorem d_Lw_law_0 : decode code 0 = .ok (.new 7, 3) := by decide +kernel
theorem d_Lw_law_3 : decode code 3 = .ok (.dup, 1) := by decide +kernel
theorem d_Lw_law_4 : decode code 4 = .ok (.invokespecial 9, 3) := by decide +kernel
theorem d_Lw_law_7 : decode code 7 = .ok (.astore_n 1, 1) := by decide +kernel
theorem d_Lw_law_8 : decode code 8 = .ok (.new 10, 3) := by decide +kernel
theorem d_Lw_law_11 : decode code 11 = .ok (.dup, 1) := by decide +kernel
theorem d_Lw_law_12 : decode code 12 = .ok (.invokespecial 12, 3) := by decide +kernel
theorem d_Lw_law_15 : decode code 15 = .ok (.astore_n 2, 1) := by decide +kernel
theorem d_Lw_law_16 : decode code 16 = .ok (.iconst 0, 1) := by decide +kernel
theorem d_Lw_law_17 : decode code 17 = .ok (.istore_n 3, 1) := by decide +kernel
theorem d_Lw_law_18 : decode code 18 = .ok (.iload_n 3, 1) := by decide +kernel
theorem d_Lw_law_19 : decode code 19 = .ok (.aload_n 0, 1) := by decide +kernel
theorem d_Lw_law_20 : decode code 20 = .ok (.arraylength, 1) := by decide +kernel
theorem d_Lw_law_21 : decode code 21 = .ok (.bipush 6, 2) := by decide +kernel
theorem d_Lw_law_23 : decode code 23 = .ok (.isub, 1) := by decide +kernel
theorem d_Lw_law_24 : decode code 24 = .ok (.if_icmp .gt 1323, 3) := by decide +kernel
theorem d_Lw_law_27 : decode code 27 = .ok (.aload_n 0, 1) := by decide +kernel
theorem d_Lw_law_28 : decode code 28 = .ok (.iload_n 3, 1) := by decide +kernel
theorem d_Lw_law_29 : decode code 29 = .ok (.iaload, 1) := by decide +kernel
theorem d_Lw_law_30 : decode code 30 = .ok (.bipush 63, 2) := by decide +kernel
theorem d_Lw_law_32 : decode code 32 = .ok (.iand, 1) := by decide +kernel
theorem d_Lw_law_33 : decode code 33 = .ok (.tableswitch 1308 0 38 #[171, 194, 227, 260, 293, 306, 339, 362, 385, 448, 471, 494, 547, 570, 593, 616, 639, 662, 695, 728, 751, 764, 807, 840, 873, 906, 939, 982, 1005, 1048, 1091, 1154, 1177, 1200, 1213, 1226, 1249, 1262, 1285], 171) := by decide +kernel
theorem d_Lw_law_204 : decode code 204 = .ok (.aload_n 1, 1) := by decide +kernel
theorem d_Lw_law_205 : decode code 205 = .ok (.aload_n 0, 1) := by decide +kernel
theorem d_Lw_law_206 : decode code 206 = .ok (.iload_n 3, 1) := by decide +kernel
theorem d_Lw_law_207 : decode code 207 = .ok (.iconst 1, 1) := by decide +kernel
theorem d_Lw_law_208 : decode code 208 = .ok (.iadd, 1) := by decide +kernel
theorem d_Lw_law_209 : decode code 209 = .ok (.iaload, 1) := by decide +kernel
theorem d_Lw_law_210 : decode code 210 = .ok (.invokevirtual 13, 3) := by decide +kernel
theorem d_Lw_law_213 : decode code 213 = .ok (.aload_n 2, 1) := by decide +kernel
theorem d_Lw_law_214 : decode code 214 = .ok (.aload_n 0, 1) := by decide +kernel
theorem d_Lw_law_215 : decode code 215 = .ok (.iload_n 3, 1) := by decide +kernel
theorem d_Lw_law_216 : decode code 216 = .ok (.iconst 1, 1) := by decide +kernel
theorem d_Lw_law_217 : decode code 217 = .ok (.iadd, 1) := by decide +kernel
theorem d_Lw_law_218 : decode code 218 = .ok (.iaload, 1) := by decide +kernel
theorem d_Lw_law_219 : decode code 219 = .ok (.invokevirtual 17, 3) := by decide +kernel
theorem d_Lw_law_222 : decode code 222 = .ok (.if_icmp .eq 1119, 3) := by decide +kernel
theorem d_Lw_law_225 : decode code 225 = .ok (.iconst 0, 1) := by decide +kernel
theorem d_Lw_law_226 : decode code 226 = .ok (.ireturn, 1) := by decide +kernel
theorem d_Lw_law_227 : decode code 227 = .ok (.aload_n 1, 1) := by decide +kernel
theorem d_Lw_law_228 : decode code 228 = .ok (.aload_n 0, 1) := by decide +kernel
theorem d_Lw_law_229 : decode code 229 = .ok (.iload_n 3, 1) := by decide +kernel
theorem d_Lw_law_230 : decode code 230 = .ok (.iconst 1, 1) := by decide +kernel
theorem d_Lw_law_231 : decode code 231 = .ok (.iadd, 1) := by decide +kernel
theorem d_Lw_law_232 : decode code 232 = .ok (.iaload, 1) := by decide +kernel
theorem d_Lw_law_233 : decode code 233 = .ok (.aload_n 0, 1) := by decide +kernel
theorem d_Lw_law_234 : decode code 234 = .ok (.iload_n 3, 1) := by decide +kernel
theorem d_Lw_law_235 : decode code 235 = .ok (.iconst 2, 1) := by decide +kernel
theorem d_Lw_law_236 : decode code 236 = .ok (.iadd, 1) := by decide +kernel
theorem d_Lw_law_237 : decode code 237 = .ok (.iaload, 1) := by decide +kernel
theorem d_Lw_law_238 : decode code 238 = .ok (.invokevirtual 18, 3) := by decide +kernel
theorem d_Lw_law_241 : decode code 241 = .ok (.aload_n 2, 1) := by decide +kernel
theorem d_Lw_law_242 : decode code 242 = .ok (.aload_n 0, 1) := by decide +kernel
theorem d_Lw_law_243 : decode code 243 = .ok (.iload_n 3, 1) := by decide +kernel
theorem d_Lw_law_244 : decode code 244 = .ok (.iconst 1, 1) := by decide +kernel
theorem d_Lw_law_245 : decode code 245 = .ok (.iadd, 1) := by decide +kernel
theorem d_Lw_law_246 : decode code 246 = .ok (.iaload, 1) := by decide +kernel
theorem d_Lw_law_247 : decode code 247 = .ok (.aload_n 0, 1) := by decide +kernel
theorem d_Lw_law_248 : decode code 248 = .ok (.iload_n 3, 1) := by decide +kernel
theorem d_Lw_law_249 : decode code 249 = .ok (.iconst 2, 1) := by decide +kernel
theorem d_Lw_law_250 : decode code 250 = .ok (.iadd, 1) := by decide +kernel
theorem d_Lw_law_251 : decode code 251 = .ok (.iaload, 1) := by decide +kernel
theorem d_Lw_law_252 : decode code 252 = .ok (.invokevirtual 22, 3) := by decide +kernel
theorem d_Lw_law_255 : decode code 255 = .ok (.if_icmp .eq 1086, 3) := by decide +kernel
theorem d_Lw_law_258 : decode code 258 = .ok (.iconst 0, 1) := by decide +kernel
theorem d_Lw_law_259 : decode code 259 = .ok (.ireturn, 1) := by decide +kernel
theorem d_Lw_law_260 : decode code 260 = .ok (.aload_n 1, 1) := by decide +kernel
theorem d_Lw_law_261 : decode code 261 = .ok (.aload_n 0, 1) := by decide +kernel
theorem d_Lw_law_262 : decode code 262 = .ok (.iload_n 3, 1) := by decide +kernel
theorem d_Lw_law_263 : decode code 263 = .ok (.iconst 1, 1) := by decide +kernel
theorem d_Lw_law_264 : decode code 264 = .ok (.iadd, 1) := by decide +kernel
theorem d_Lw_law_265 : decode code 265 = .ok (.iaload, 1) := by decide +kernel
theorem d_Lw_law_266 : decode code 266 = .ok (.aload_n 0, 1) := by decide +kernel
theorem d_Lw_law_267 : decode code 267 = .ok (.iload_n 3, 1) := by decide +kernel
theorem d_Lw_law_268 : decode code 268 = .ok (.iconst 2, 1) := by decide +kernel
theorem d_Lw_law_269 : decode code 269 = .ok (.iadd, 1) := by decide +kernel
theorem d_Lw_law_270 : decode code 270 = .ok (.iaload, 1) := by decide +kernel
theorem d_Lw_law_271 : decode code 271 = .ok (.invokevirtual 23, 3) := by decide +kernel
theorem d_Lw_law_274 : decode code 274 = .ok (.aload_n 2, 1) := by decide +kernel
theorem d_Lw_law_275 : decode code 275 = .ok (.aload_n 0, 1) := by decide +kernel
theorem d_Lw_law_276 : decode code 276 = .ok (.iload_n 3, 1) := by decide +kernel
theorem d_Lw_law_277 : decode code 277 = .ok (.iconst 1, 1) := by decide +kernel
theorem d_Lw_law_278 : decode code 278 = .ok (.iadd, 1) := by decide +kernel
theorem d_Lw_law_279 : decode code 279 = .ok (.iaload, 1) := by decide +kernel
theorem d_Lw_law_280 : decode code 280 = .ok (.aload_n 0, 1) := by decide +kernel
theorem d_Lw_law_281 : decode code 281 = .ok (.iload_n 3, 1) := by decide +kernel
theorem d_Lw_law_282 : decode code 282 = .ok (.iconst 2, 1) := by decide +kernel
theorem d_Lw_law_283 : decode code 283 = .ok (.iadd, 1) := by decide +kernel
theorem d_Lw_law_284 : decode code 284 = .ok (.iaload, 1) := by decide +kernel
theorem d_Lw_law_285 : decode code 285 = .ok (.invokevirtual 26, 3) := by decide +kernel
theorem d_Lw_law_288 : decode code 288 = .ok (.if_icmp .eq 1053, 3) := by decide +kernel
theorem d_Lw_law_291 : decode code 291 = .ok (.iconst 0, 1) := by decide +kernel
theorem d_Lw_law_292 : decode code 292 = .ok (.ireturn, 1) := by decide +kernel
theorem d_Lw_law_293 : decode code 293 = .ok (.aload_n 1, 1) := by decide +kernel
theorem d_Lw_law_294 : decode code 294 = .ok (.aload_n 0, 1) := by decide +kernel
theorem d_Lw_law_295 : decode code 295 = .ok (.iload_n 3, 1) := by decide +kernel
theorem d_Lw_law_296 : decode code 296 = .ok (.iconst 1, 1) := by decide +kernel
theorem d_Lw_law_297 : decode code 297 = .ok (.iadd, 1) := by decide +kernel
theorem d_Lw_law_298 : decode code 298 = .ok (.iaload, 1) := by decide +kernel
theorem d_Lw_law_299 : decode code 299 = .ok (.aload_n 0, 1) := by decide +kernel
theorem d_Lw_law_300 : decode code 300 = .ok (.iload_n 3, 1) := by decide +kernel
theorem d_Lw_law_301 : decode code 301 = .ok (.iconst 2, 1) := by decide +kernel
theorem d_Lw_law_302 : decode code 302 = .ok (.iadd, 1) := by decide +kernel
theorem d_Lw_law_303 : decode code 303 = .ok (.iaload, 1) := by decide +kernel
theorem d_Lw_law_304 : decode code 304 = .ok (.invokevirtual 27, 3) := by decide +kernel
theorem d_Lw_law_307 : decode code 307 = .ok (.aload_n 2, 1) := by decide +kernel
theorem d_Lw_law_308 : decode code 308 = .ok (.aload_n 0, 1) := by decide +kernel
theorem d_Lw_law_309 : decode code 309 = .ok (.iload_n 3, 1) := by decide +kernel
theorem d_Lw_law_310 : decode code 310 = .ok (.iconst 1, 1) := by decide +kernel
theorem d_Lw_law_311 : decode code 311 = .ok (.iadd, 1) := by decide +kernel
theorem d_Lw_law_312 : decode code 312 = .ok (.iaload, 1) := by decide +kernel
theorem d_Lw_law_313 : decode code 313 = .ok (.aload_n 0, 1) := by decide +kernel
theorem d_Lw_law_314 : decode code 314 = .ok (.iload_n 3, 1) := by decide +kernel
theorem d_Lw_law_315 : decode code 315 = .ok (.iconst 2, 1) := by decide +kernel
theorem d_Lw_law_316 : decode code 316 = .ok (.iadd, 1) := by decide +kernel
theorem d_Lw_law_317 : decode code 317 = .ok (.iaload, 1) := by decide +kernel
theorem d_Lw_law_318 : decode code 318 = .ok (.invokevirtual 30, 3) := by decide +kernel
theorem d_Lw_law_321 : decode code 321 = .ok (.if_icmp .eq 1020, 3) := by decide +kernel
theorem d_Lw_law_324 : decode code 324 = .ok (.iconst 0, 1) := by decide +kernel
theorem d_Lw_law_325 : decode code 325 = .ok (.ireturn, 1) := by decide +kernel
theorem d_Lw_law_326 : decode code 326 = .ok (.aload_n 1, 1) := by decide +kernel
theorem d_Lw_law_327 : decode code 327 = .ok (.invokevirtual 31, 3) := by decide +kernel
theorem d_Lw_law_330 : decode code 330 = .ok (.aload_n 2, 1) := by decide +kernel
theorem d_Lw_law_331 : decode code 331 = .ok (.invokevirtual 35, 3) := by decide +kernel
theorem d_Lw_law_334 : decode code 334 = .ok (.if_icmp .eq 1007, 3) := by decide +kernel
theorem d_Lw_law_337 : decode code 337 = .ok (.iconst 0, 1) := by decide +kernel
theorem d_Lw_law_338 : decode code 338 = .ok (.ireturn, 1) := by decide +kernel
theorem d_Lw_law_339 : decode code 339 = .ok (.aload_n 1, 1) := by decide +kernel
theorem d_Lw_law_340 : decode code 340 = .ok (.aload_n 0, 1) := by decide +kernel
theorem d_Lw_law_341 : decode code 341 = .ok (.iload_n 3, 1) := by decide +kernel
theorem d_Lw_law_342 : decode code 342 = .ok (.iconst 1, 1) := by decide +kernel
theorem d_Lw_law_343 : decode code 343 = .ok (.iadd, 1) := by decide +kernel
theorem d_Lw_law_344 : decode code 344 = .ok (.iaload, 1) := by decide +kernel
theorem d_Lw_law_345 : decode code 345 = .ok (.aload_n 0, 1) := by decide +kernel
theorem d_Lw_law_346 : decode code 346 = .ok (.iload_n 3, 1) := by decide +kernel
theorem d_Lw_law_347 : decode code 347 = .ok (.iconst 2, 1) := by decide +kernel
theorem d_Lw_law_348 : decode code 348 = .ok (.iadd, 1) := by decide +kernel
theorem d_Lw_law_349 : decode code 349 = .ok (.iaload, 1) := by decide +kernel
theorem d_Lw_law_350 : decode code 350 = .ok (.invokevirtual 36, 3) := by decide +kernel
theorem d_Lw_law_353 : decode code 353 = .ok (.aload_n 2, 1) := by decide +kernel
theorem d_Lw_law_354 : decode code 354 = .ok (.aload_n 0, 1) := by decide +kernel
theorem d_Lw_law_355 : decode code 355 = .ok (.iload_n 3, 1) := by decide +kernel
theorem d_Lw_law_356 : decode code 356 = .ok (.iconst 1, 1) := by decide +kernel
theorem d_Lw_law_357 : decode code 357 = .ok (.iadd, 1) := by decide +kernel
theorem d_Lw_law_358 : decode code 358 = .ok (.iaload, 1) := by decide +kernel
theorem d_Lw_law_359 : decode code 359 = .ok (.aload_n 0, 1) := by decide +kernel
theorem d_Lw_law_360 : decode code 360 = .ok (.iload_n 3, 1) := by decide +kernel
theorem d_Lw_law_361 : decode code 361 = .ok (.iconst 2, 1) := by decide +kernel
theorem d_Lw_law_362 : decode code 362 = .ok (.iadd, 1) := by decide +kernel
theorem d_Lw_law_363 : decode code 363 = .ok (.iaload, 1) := by decide +kernel
theorem d_Lw_law_364 : decode code 364 = .ok (.invokevirtual 39, 3) := by decide +kernel
theorem d_Lw_law_367 : decode code 367 = .ok (.if_icmp .eq 974, 3) := by decide +kernel
theorem d_Lw_law_370 : decode code 370 = .ok (.iconst 0, 1) := by decide +kernel
theorem d_Lw_law_371 : decode code 371 = .ok (.ireturn, 1) := by decide +kernel
theorem d_Lw_law_372 : decode code 372 = .ok (.aload_n 1, 1) := by decide +kernel
theorem d_Lw_law_373 : decode code 373 = .ok (.aload_n 0, 1) := by decide +kernel
theorem d_Lw_law_374 : decode code 374 = .ok (.iload_n 3, 1) := by decide +kernel
theorem d_Lw_law_375 : decode code 375 = .ok (.iconst 1, 1) := by decide +kernel
theorem d_Lw_law_376 : decode code 376 = .ok (.iadd, 1) := by decide +kernel
theorem d_Lw_law_377 : decode code 377 = .ok (.iaload, 1) := by decide +kernel
theorem d_Lw_law_378 : decode code 378 = .ok (.invokevirtual 40, 3) := by decide +kernel
theorem d_Lw_law_381 : decode code 381 = .ok (.aload_n 2, 1) := by decide +kernel
theorem d_Lw_law_382 : decode code 382 = .ok (.aload_n 0, 1) := by decide +kernel
theorem d_Lw_law_383 : decode code 383 = .ok (.iload_n 3, 1) := by decide +kernel
theorem d_Lw_law_384 : decode code 384 = .ok (.iconst 1, 1) := by decide +kernel
theorem d_Lw_law_385 : decode code 385 = .ok (.iadd, 1) := by decide +kernel
theorem d_Lw_law_386 : decode code 386 = .ok (.iaload, 1) := by decide +kernel
theorem d_Lw_law_387 : decode code 387 = .ok (.invokevirtual 43, 3) := by decide +kernel
theorem d_Lw_law_390 : decode code 390 = .ok (.if_icmp .eq 951, 3) := by decide +kernel
theorem d_Lw_law_393 : decode code 393 = .ok (.iconst 0, 1) := by decide +kernel
theorem d_Lw_law_394 : decode code 394 = .ok (.ireturn, 1) := by decide +kernel
theorem d_Lw_law_395 : decode code 395 = .ok (.aload_n 1, 1) := by decide +kernel
theorem d_Lw_law_396 : decode code 396 = .ok (.aload_n 0, 1) := by decide +kernel
theorem d_Lw_law_397 : decode code 397 = .ok (.iload_n 3, 1) := by decide +kernel
theorem d_Lw_law_398 : decode code 398 = .ok (.iconst 1, 1) := by decide +kernel
theorem d_Lw_law_399 : decode code 399 = .ok (.iadd, 1) := by decide +kernel
theorem d_Lw_law_400 : decode code 400 = .ok (.iaload, 1) := by decide +kernel
theorem d_Lw_law_401 : decode code 401 = .ok (.invokevirtual 44, 3) := by decide +kernel
theorem d_Lw_law_404 : decode code 404 = .ok (.aload_n 2, 1) := by decide +kernel
theorem d_Lw_law_405 : decode code 405 = .ok (.aload_n 0, 1) := by decide +kernel
theorem d_Lw_law_406 : decode code 406 = .ok (.iload_n 3, 1) := by decide +kernel
theorem d_Lw_law_407 : decode code 407 = .ok (.iconst 1, 1) := by decide +kernel
theorem d_Lw_law_408 : decode code 408 = .ok (.iadd, 1) := by decide +kernel
theorem d_Lw_law_409 : decode code 409 = .ok (.iaload, 1) := by decide +kernel
theorem d_Lw_law_410 : decode code 410 = .ok (.invokevirtual 47, 3) := by decide +kernel
theorem d_Lw_law_413 : decode code 413 = .ok (.if_icmp .eq 928, 3) := by decide +kernel
theorem d_Lw_law_416 : decode code 416 = .ok (.iconst 0, 1) := by decide +kernel
theorem d_Lw_law_417 : decode code 417 = .ok (.ireturn, 1) := by decide +kernel
theorem d_Lw_law_418 : decode code 418 = .ok (.aload_n 1, 1) := by decide +kernel
theorem d_Lw_law_419 : decode code 419 = .ok (.aload_n 0, 1) := by decide +kernel
theorem d_Lw_law_420 : decode code 420 = .ok (.iload_n 3, 1) := by decide +kernel
theorem d_Lw_law_421 : decode code 421 = .ok (.iconst 1, 1) := by decide +kernel
theorem d_Lw_law_422 : decode code 422 = .ok (.iadd, 1) := by decide +kernel
theorem d_Lw_law_423 : decode code 423 = .ok (.iaload, 1) := by decide +kernel
theorem d_Lw_law_424 : decode code 424 = .ok (.i2l, 1) := by decide +kernel
theorem d_Lw_law_425 : decode code 425 = .ok (.bipush 32, 2) := by decide +kernel
theorem d_Lw_law_427 : decode code 427 = .ok (.lshl, 1) := by decide +kernel
theorem d_Lw_law_428 : decode code 428 = .ok (.aload_n 0, 1) := by decide +kernel
theorem d_Lw_law_429 : decode code 429 = .ok (.iload_n 3, 1) := by decide +kernel
theorem d_Lw_law_430 : decode code 430 = .ok (.iconst 2, 1) := by decide +kernel
theorem d_Lw_law_431 : decode code 431 = .ok (.iadd, 1) := by decide +kernel
theorem d_Lw_law_432 : decode code 432 = .ok (.iaload, 1) := by decide +kernel
theorem d_Lw_law_433 : decode code 433 = .ok (.i2l, 1) := by decide +kernel
theorem d_Lw_law_434 : decode code 434 = .ok (.ldc2_w 48, 3) := by decide +kernel
theorem d_Lw_law_437 : decode code 437 = .ok (.land, 1) := by decide +kernel
theorem d_Lw_law_438 : decode code 438 = .ok (.lor, 1) := by decide +kernel
theorem d_Lw_law_439 : decode code 439 = .ok (.aload_n 0, 1) := by decide +kernel
theorem d_Lw_law_440 : decode code 440 = .ok (.iload_n 3, 1) := by decide +kernel
theorem d_Lw_law_441 : decode code 441 = .ok (.iconst 3, 1) := by decide +kernel
theorem d_Lw_law_442 : decode code 442 = .ok (.iadd, 1) := by decide +kernel
theorem d_Lw_law_443 : decode code 443 = .ok (.iaload, 1) := by decide +kernel
theorem d_Lw_law_444 : decode code 444 = .ok (.invokevirtual 50, 3) := by decide +kernel
theorem d_Lw_law_447 : decode code 447 = .ok (.aload_n 2, 1) := by decide +kernel
theorem d_Lw_law_448 : decode code 448 = .ok (.aload_n 0, 1) := by decide +kernel
theorem d_Lw_law_449 : decode code 449 = .ok (.iload_n 3, 1) := by decide +kernel
theorem d_Lw_law_450 : decode code 450 = .ok (.iconst 1, 1) := by decide +kernel
theorem d_Lw_law_451 : decode code 451 = .ok (.iadd, 1) := by decide +kernel
theorem d_Lw_law_452 : decode code 452 = .ok (.iaload, 1) := by decide +kernel
theorem d_Lw_law_453 : decode code 453 = .ok (.i2l, 1) := by decide +kernel
theorem d_Lw_law_454 : decode code 454 = .ok (.bipush 32, 2) := by decide +kernel
theorem d_Lw_law_456 : decode code 456 = .ok (.lshl, 1) := by decide +kernel
theorem d_Lw_law_457 : decode code 457 = .ok (.aload_n 0, 1) := by decide +kernel
theorem d_Lw_law_458 : decode code 458 = .ok (.iload_n 3, 1) := by decide +kernel
theorem d_Lw_law_459 : decode code 459 = .ok (.iconst 2, 1) := by decide +kernel
theorem d_Lw_law_460 : decode code 460 = .ok (.iadd, 1) := by decide +kernel
theorem d_Lw_law_461 : decode code 461 = .ok (.iaload, 1) := by decide +kernel
theorem d_Lw_law_462 : decode code 462 = .ok (.i2l, 1) := by decide +kernel
theorem d_Lw_law_463 : decode code 463 = .ok (.ldc2_w 48, 3) := by decide +kernel
theorem d_Lw_law_466 : decode code 466 = .ok (.land, 1) := by decide +kernel
theorem d_Lw_law_467 : decode code 467 = .ok (.lor, 1) := by decide +kernel
theorem d_Lw_law_468 : decode code 468 = .ok (.aload_n 0, 1) := by decide +kernel
theorem d_Lw_law_469 : decode code 469 = .ok (.iload_n 3, 1) := by decide +kernel
theorem d_Lw_law_470 : decode code 470 = .ok (.iconst 3, 1) := by decide +kernel
theorem d_Lw_law_471 : decode code 471 = .ok (.iadd, 1) := by decide +kernel
theorem d_Lw_law_472 : decode code 472 = .ok (.iaload, 1) := by decide +kernel
theorem d_Lw_law_473 : decode code 473 = .ok (.invokevirtual 54, 3) := by decide +kernel
theorem d_Lw_law_476 : decode code 476 = .ok (.if_icmp .eq 865, 3) := by decide +kernel
theorem d_Lw_law_479 : decode code 479 = .ok (.iconst 0, 1) := by decide +kernel
theorem d_Lw_law_480 : decode code 480 = .ok (.ireturn, 1) := by decide +kernel
theorem d_Lw_law_481 : decode code 481 = .ok (.aload_n 1, 1) := by decide +kernel
theorem d_Lw_law_482 : decode code 482 = .ok (.aload_n 0, 1) := by decide +kernel
theorem d_Lw_law_483 : decode code 483 = .ok (.iload_n 3, 1) := by decide +kernel
theorem d_Lw_law_484 : decode code 484 = .ok (.iconst 1, 1) := by decide +kernel
theorem d_Lw_law_485 : decode code 485 = .ok (.iadd, 1) := by decide +kernel
theorem d_Lw_law_486 : decode code 486 = .ok (.iaload, 1) := by decide +kernel
theorem d_Lw_law_487 : decode code 487 = .ok (.invokevirtual 55, 3) := by decide +kernel
theorem d_Lw_law_490 : decode code 490 = .ok (.aload_n 2, 1) := by decide +kernel
theorem d_Lw_law_491 : decode code 491 = .ok (.aload_n 0, 1) := by decide +kernel
theorem d_Lw_law_492 : decode code 492 = .ok (.iload_n 3, 1) := by decide +kernel
theorem d_Lw_law_493 : decode code 493 = .ok (.iconst 1, 1) := by decide +kernel
theorem d_Lw_law_494 : decode code 494 = .ok (.iadd, 1) := by decide +kernel
theorem d_Lw_law_495 : decode code 495 = .ok (.iaload, 1) := by decide +kernel
theorem d_Lw_law_496 : decode code 496 = .ok (.invokevirtual 58, 3) := by decide +kernel
theorem d_Lw_law_499 : decode code 499 = .ok (.if_icmp .eq 842, 3) := by decide +kernel
theorem d_Lw_law_502 : decode code 502 = .ok (.iconst 0, 1) := by decide +kernel
theorem d_Lw_law_503 : decode code 503 = .ok (.ireturn, 1) := by decide +kernel
theorem d_Lw_law_504 : decode code 504 = .ok (.aload_n 1, 1) := by decide +kernel
theorem d_Lw_law_505 : decode code 505 = .ok (.aload_n 0, 1) := by decide +kernel
theorem d_Lw_law_506 : decode code 506 = .ok (.iload_n 3, 1) := by decide +kernel
theorem d_Lw_law_507 : decode code 507 = .ok (.iconst 1, 1) := by decide +kernel
theorem d_Lw_law_508 : decode code 508 = .ok (.iadd, 1) := by decide +kernel
theorem d_Lw_law_509 : decode code 509 = .ok (.iaload, 1) := by decide +kernel
theorem d_Lw_law_510 : decode code 510 = .ok (.invokevirtual 59, 3) := by decide +kernel
theorem d_Lw_law_513 : decode code 513 = .ok (.aload_n 2, 1) := by decide +kernel
theorem d_Lw_law_514 : decode code 514 = .ok (.aload_n 0, 1) := by decide +kernel
theorem d_Lw_law_515 : decode code 515 = .ok (.iload_n 3, 1) := by decide +kernel
theorem d_Lw_law_516 : decode code 516 = .ok (.iconst 1, 1) := by decide +kernel
theorem d_Lw_law_517 : decode code 517 = .ok (.iadd, 1) := by decide +kernel
theorem d_Lw_law_518 : decode code 518 = .ok (.iaload, 1) := by decide +kernel
theorem d_Lw_law_519 : decode code 519 = .ok (.invokevirtual 62, 3) := by decide +kernel
theorem d_Lw_law_522 : decode code 522 = .ok (.if_icmp .eq 819, 3) := by decide +kernel
theorem d_Lw_law_525 : decode code 525 = .ok (.iconst 0, 1) := by decide +kernel
theorem d_Lw_law_526 : decode code 526 = .ok (.ireturn, 1) := by decide +kernel
theorem d_Lw_law_527 : decode code 527 = .ok (.aload_n 1, 1) := by decide +kernel
theorem d_Lw_law_528 : decode code 528 = .ok (.aload_n 0, 1) := by decide +kernel
theorem d_Lw_law_529 : decode code 529 = .ok (.iload_n 3, 1) := by decide +kernel
theorem d_Lw_law_530 : decode code 530 = .ok (.iconst 1, 1) := by decide +kernel
theorem d_Lw_law_531 : decode code 531 = .ok (.iadd, 1) := by decide +kernel
theorem d_Lw_law_532 : decode code 532 = .ok (.iaload, 1) := by decide +kernel
theorem d_Lw_law_533 : decode code 533 = .ok (.aload_n 0, 1) := by decide +kernel
theorem d_Lw_law_534 : decode code 534 = .ok (.iload_n 3, 1) := by decide +kernel
theorem d_Lw_law_535 : decode code 535 = .ok (.iconst 2, 1) := by decide +kernel
theorem d_Lw_law_536 : decode code 536 = .ok (.iadd, 1) := by decide +kernel
theorem d_Lw_law_537 : decode code 537 = .ok (.iaload, 1) := by decide +kernel
theorem d_Lw_law_538 : decode code 538 = .ok (.aload_n 0, 1) := by decide +kernel
theorem d_Lw_law_539 : decode code 539 = .ok (.iload_n 3, 1) := by decide +kernel
theorem d_Lw_law_540 : decode code 540 = .ok (.iconst 3, 1) := by decide +kernel
theorem d_Lw_law_541 : decode code 541 = .ok (.iadd, 1) := by decide +kernel
theorem d_Lw_law_542 : decode code 542 = .ok (.iaload, 1) := by decide +kernel
theorem d_Lw_law_543 : decode code 543 = .ok (.aload_n 0, 1) := by decide +kernel
theorem d_Lw_law_544 : decode code 544 = .ok (.iload_n 3, 1) := by decide +kernel
theorem d_Lw_law_545 : decode code 545 = .ok (.iconst 4, 1) := by decide +kernel
theorem d_Lw_law_546 : decode code 546 = .ok (.iadd, 1) := by decide +kernel
theorem d_Lw_law_547 : decode code 547 = .ok (.iaload, 1) := by decide +kernel
theorem d_Lw_law_548 : decode code 548 = .ok (.invokevirtual 63, 3) := by decide +kernel
theorem d_Lw_law_551 : decode code 551 = .ok (.aload_n 2, 1) := by decide +kernel
theorem d_Lw_law_552 : decode code 552 = .ok (.aload_n 0, 1) := by decide +kernel
theorem d_Lw_law_553 : decode code 553 = .ok (.iload_n 3, 1) := by decide +kernel
theorem d_Lw_law_554 : decode code 554 = .ok (.iconst 1, 1) := by decide +kernel
theorem d_Lw_law_555 : decode code 555 = .ok (.iadd, 1) := by decide +kernel
theorem d_Lw_law_556 : decode code 556 = .ok (.iaload, 1) := by decide +kernel
theorem d_Lw_law_557 : decode code 557 = .ok (.aload_n 0, 1) := by decide +kernel
theorem d_Lw_law_558 : decode code 558 = .ok (.iload_n 3, 1) := by decide +kernel
theorem d_Lw_law_559 : decode code 559 = .ok (.iconst 2, 1) := by decide +kernel
theorem d_Lw_law_560 : decode code 560 = .ok (.iadd, 1) := by decide +kernel
theorem d_Lw_law_561 : decode code 561 = .ok (.iaload, 1) := by decide +kernel
theorem d_Lw_law_562 : decode code 562 = .ok (.aload_n 0, 1) := by decide +kernel
theorem d_Lw_law_563 : decode code 563 = .ok (.iload_n 3, 1) := by decide +kernel
theorem d_Lw_law_564 : decode code 564 = .ok (.iconst 3, 1) := by decide +kernel
theorem d_Lw_law_565 : decode code 565 = .ok (.iadd, 1) := by decide +kernel
theorem d_Lw_law_566 : decode code 566 = .ok (.iaload, 1) := by decide +kernel
theorem d_Lw_law_567 : decode code 567 = .ok (.aload_n 0, 1) := by decide +kernel
theorem d_Lw_law_568 : decode code 568 = .ok (.iload_n 3, 1) := by decide +kernel
theorem d_Lw_law_569 : decode code 569 = .ok (.iconst 4, 1) := by decide +kernel
theorem d_Lw_law_570 : decode code 570 = .ok (.iadd, 1) := by decide +kernel
theorem d_Lw_law_571 : decode code 571 = .ok (.iaload, 1) := by decide +kernel
theorem d_Lw_law_572 : decode code 572 = .ok (.invokevirtual 67, 3) := by decide +kernel
theorem d_Lw_law_575 : decode code 575 = .ok (.if_icmp .eq 766, 3) := by decide +kernel
theorem d_Lw_law_578 : decode code 578 = .ok (.iconst 0, 1) := by decide +kernel
theorem d_Lw_law_579 : decode code 579 = .ok (.ireturn, 1) := by decide +kernel
theorem d_Lw_law_580 : decode code 580 = .ok (.aload_n 1, 1) := by decide +kernel
theorem d_Lw_law_581 : decode code 581 = .ok (.aload_n 0, 1) := by decide +kernel
theorem d_Lw_law_582 : decode code 582 = .ok (.iload_n 3, 1) := by decide +kernel
theorem d_Lw_law_583 : decode code 583 = .ok (.iconst 1, 1) := by decide +kernel
theorem d_Lw_law_584 : decode code 584 = .ok (.iadd, 1) := by decide +kernel
theorem d_Lw_law_585 : decode code 585 = .ok (.iaload, 1) := by decide +kernel
theorem d_Lw_law_586 : decode code 586 = .ok (.invokevirtual 68, 3) := by decide +kernel
theorem d_Lw_law_589 : decode code 589 = .ok (.aload_n 2, 1) := by decide +kernel
theorem d_Lw_law_590 : decode code 590 = .ok (.aload_n 0, 1) := by decide +kernel
theorem d_Lw_law_591 : decode code 591 = .ok (.iload_n 3, 1) := by decide +kernel
theorem d_Lw_law_592 : decode code 592 = .ok (.iconst 1, 1) := by decide +kernel
theorem d_Lw_law_593 : decode code 593 = .ok (.iadd, 1) := by decide +kernel
theorem d_Lw_law_594 : decode code 594 = .ok (.iaload, 1) := by decide +kernel
theorem d_Lw_law_595 : decode code 595 = .ok (.invokevirtual 71, 3) := by decide +kernel
theorem d_Lw_law_598 : decode code 598 = .ok (.if_icmp .eq 743, 3) := by decide +kernel
theorem d_Lw_law_601 : decode code 601 = .ok (.iconst 0, 1) := by decide +kernel
theorem d_Lw_law_602 : decode code 602 = .ok (.ireturn, 1) := by decide +kernel
theorem d_Lw_law_603 : decode code 603 = .ok (.aload_n 1, 1) := by decide +kernel
theorem d_Lw_law_604 : decode code 604 = .ok (.aload_n 0, 1) := by decide +kernel
theorem d_Lw_law_605 : decode code 605 = .ok (.iload_n 3, 1) := by decide +kernel
theorem d_Lw_law_606 : decode code 606 = .ok (.iconst 1, 1) := by decide +kernel
theorem d_Lw_law_607 : decode code 607 = .ok (.iadd, 1) := by decide +kernel
theorem d_Lw_law_608 : decode code 608 = .ok (.iaload, 1) := by decide +kernel
theorem d_Lw_law_609 : decode code 609 = .ok (.invokevirtual 72, 3) := by decide +kernel
theorem d_Lw_law_612 : decode code 612 = .ok (.aload_n 2, 1) := by decide +kernel
theorem d_Lw_law_613 : decode code 613 = .ok (.aload_n 0, 1) := by decide +kernel
theorem d_Lw_law_614 : decode code 614 = .ok (.iload_n 3, 1) := by decide +kernel
theorem d_Lw_law_615 : decode code 615 = .ok (.iconst 1, 1) := by decide +kernel
theorem d_Lw_law_616 : decode code 616 = .ok (.iadd, 1) := by decide +kernel
theorem d_Lw_law_617 : decode code 617 = .ok (.iaload, 1) := by decide +kernel
theorem d_Lw_law_618 : decode code 618 = .ok (.invokevirtual 75, 3) := by decide +kernel
theorem d_Lw_law_621 : decode code 621 = .ok (.if_icmp .eq 720, 3) := by decide +kernel
theorem d_Lw_law_624 : decode code 624 = .ok (.iconst 0, 1) := by decide +kernel
theorem d_Lw_law_625 : decode code 625 = .ok (.ireturn, 1) := by decide +kernel
theorem d_Lw_law_626 : decode code 626 = .ok (.aload_n 1, 1) := by decide +kernel
theorem d_Lw_law_627 : decode code 627 = .ok (.aload_n 0, 1) := by decide +kernel
theorem d_Lw_law_628 : decode code 628 = .ok (.iload_n 3, 1) := by decide +kernel
theorem d_Lw_law_629 : decode code 629 = .ok (.iconst 1, 1) := by decide +kernel
theorem d_Lw_law_630 : decode code 630 = .ok (.iadd, 1) := by decide +kernel
theorem d_Lw_law_631 : decode code 631 = .ok (.iaload, 1) := by decide +kernel
theorem d_Lw_law_632 : decode code 632 = .ok (.invokevirtual 76, 3) := by decide +kernel
theorem d_Lw_law_635 : decode code 635 = .ok (.aload_n 2, 1) := by decide +kernel
theorem d_Lw_law_636 : decode code 636 = .ok (.aload_n 0, 1) := by decide +kernel
theorem d_Lw_law_637 : decode code 637 = .ok (.iload_n 3, 1) := by decide +kernel
theorem d_Lw_law_638 : decode code 638 = .ok (.iconst 1, 1) := by decide +kernel
theorem d_Lw_law_639 : decode code 639 = .ok (.iadd, 1) := by decide +kernel
theorem d_Lw_law_640 : decode code 640 = .ok (.iaload, 1) := by decide +kernel
theorem d_Lw_law_641 : decode code 641 = .ok (.invokevirtual 79, 3) := by decide +kernel
theorem d_Lw_law_644 : decode code 644 = .ok (.if_icmp .eq 697, 3) := by decide +kernel
theorem d_Lw_law_647 : decode code 647 = .ok (.iconst 0, 1) := by decide +kernel
theorem d_Lw_law_648 : decode code 648 = .ok (.ireturn, 1) := by decide +kernel
theorem d_Lw_law_649 : decode code 649 = .ok (.aload_n 1, 1) := by decide +kernel
theorem d_Lw_law_650 : decode code 650 = .ok (.aload_n 0, 1) := by decide +kernel
theorem d_Lw_law_651 : decode code 651 = .ok (.iload_n 3, 1) := by decide +kernel
theorem d_Lw_law_652 : decode code 652 = .ok (.iconst 1, 1) := by decide +kernel
theorem d_Lw_law_653 : decode code 653 = .ok (.iadd, 1) := by decide +kernel
theorem d_Lw_law_654 : decode code 654 = .ok (.iaload, 1) := by decide +kernel
theorem d_Lw_law_655 : decode code 655 = .ok (.invokevirtual 80, 3) := by decide +kernel
theorem d_Lw_law_658 : decode code 658 = .ok (.aload_n 2, 1) := by decide +kernel
theorem d_Lw_law_659 : decode code 659 = .ok (.aload_n 0, 1) := by decide +kernel
theorem d_Lw_law_660 : decode code 660 = .ok (.iload_n 3, 1) := by decide +kernel
theorem d_Lw_law_661 : decode code 661 = .ok (.iconst 1, 1) := by decide +kernel
theorem d_Lw_law_662 : decode code 662 = .ok (.iadd, 1) := by decide +kernel
theorem d_Lw_law_663 : decode code 663 = .ok (.iaload, 1) := by decide +kernel
theorem d_Lw_law_664 : decode code 664 = .ok (.invokevirtual 83, 3) := by decide +kernel
theorem d_Lw_law_667 : decode code 667 = .ok (.if_icmp .eq 674, 3) := by decide +kernel
theorem d_Lw_law_670 : decode code 670 = .ok (.iconst 0, 1) := by decide +kernel
theorem d_Lw_law_671 : decode code 671 = .ok (.ireturn, 1) := by decide +kernel
theorem d_Lw_law_672 : decode code 672 = .ok (.aload_n 1, 1) := by decide +kernel
theorem d_Lw_law_673 : decode code 673 = .ok (.aload_n 0, 1) := by decide +kernel
theorem d_Lw_law_674 : decode code 674 = .ok (.iload_n 3, 1) := by decide +kernel
theorem d_Lw_law_675 : decode code 675 = .ok (.iconst 1, 1) := by decide +kernel
theorem d_Lw_law_676 : decode code 676 = .ok (.iadd, 1) := by decide +kernel
theorem d_Lw_law_677 : decode code 677 = .ok (.iaload, 1) := by decide +kernel
theorem d_Lw_law_678 : decode code 678 = .ok (.invokevirtual 84, 3) := by decide +kernel
theorem d_Lw_law_681 : decode code 681 = .ok (.aload_n 2, 1) := by decide +kernel
theorem d_Lw_law_682 : decode code 682 = .ok (.aload_n 0, 1) := by decide +kernel
theorem d_Lw_law_683 : decode code 683 = .ok (.iload_n 3, 1) := by decide +kernel
theorem d_Lw_law_684 : decode code 684 = .ok (.iconst 1, 1) := by decide +kernel
theorem d_Lw_law_685 : decode code 685 = .ok (.iadd, 1) := by decide +kernel
theorem d_Lw_law_686 : decode code 686 = .ok (.iaload, 1) := by decide +kernel
theorem d_Lw_law_687 : decode code 687 = .ok (.invokevirtual 87, 3) := by decide +kernel
theorem d_Lw_law_690 : decode code 690 = .ok (.if_icmp .eq 651, 3) := by decide +kernel
theorem d_Lw_law_693 : decode code 693 = .ok (.iconst 0, 1) := by decide +kernel
theorem d_Lw_law_694 : decode code 694 = .ok (.ireturn, 1) := by decide +kernel
theorem d_Lw_law_695 : decode code 695 = .ok (.aload_n 1, 1) := by decide +kernel
theorem d_Lw_law_696 : decode code 696 = .ok (.aload_n 0, 1) := by decide +kernel
theorem d_Lw_law_697 : decode code 697 = .ok (.iload_n 3, 1) := by decide +kernel
theorem d_Lw_law_698 : decode code 698 = .ok (.iconst 1, 1) := by decide +kernel
theorem d_Lw_law_699 : decode code 699 = .ok (.iadd, 1) := by decide +kernel
theorem d_Lw_law_700 : decode code 700 = .ok (.iaload, 1) := by decide +kernel
theorem d_Lw_law_701 : decode code 701 = .ok (.aload_n 0, 1) := by decide +kernel
theorem d_Lw_law_702 : decode code 702 = .ok (.iload_n 3, 1) := by decide +kernel
theorem d_Lw_law_703 : decode code 703 = .ok (.iconst 2, 1) := by decide +kernel
theorem d_Lw_law_704 : decode code 704 = .ok (.iadd, 1) := by decide +kernel
theorem d_Lw_law_705 : decode code 705 = .ok (.iaload, 1) := by decide +kernel
theorem d_Lw_law_706 : decode code 706 = .ok (.invokevirtual 88, 3) := by decide +kernel
theorem d_Lw_law_709 : decode code 709 = .ok (.aload_n 2, 1) := by decide +kernel
theorem d_Lw_law_710 : decode code 710 = .ok (.aload_n 0, 1) := by decide +kernel
theorem d_Lw_law_711 : decode code 711 = .ok (.iload_n 3, 1) := by decide +kernel
theorem d_Lw_law_712 : decode code 712 = .ok (.iconst 1, 1) := by decide +kernel
theorem d_Lw_law_713 : decode code 713 = .ok (.iadd, 1) := by decide +kernel
theorem d_Lw_law_714 : decode code 714 = .ok (.iaload, 1) := by decide +kernel
theorem d_Lw_law_715 : decode code 715 = .ok (.aload_n 0, 1) := by decide +kernel
theorem d_Lw_law_716 : decode code 716 = .ok (.iload_n 3, 1) := by decide +kernel
theorem d_Lw_law_717 : decode code 717 = .ok (.iconst 2, 1) := by decide +kernel
theorem d_Lw_law_718 : decode code 718 = .ok (.iadd, 1) := by decide +kernel
theorem d_Lw_law_719 : decode code 719 = .ok (.iaload, 1) := by decide +kernel
theorem d_Lw_law_720 : decode code 720 = .ok (.invokevirtual 91, 3) := by decide +kernel
theorem d_Lw_law_723 : decode code 723 = .ok (.if_icmp .eq 618, 3) := by decide +kernel
theorem d_Lw_law_726 : decode code 726 = .ok (.iconst 0, 1) := by decide +kernel
theorem d_Lw_law_727 : decode code 727 = .ok (.ireturn, 1) := by decide +kernel
theorem d_Lw_law_728 : decode code 728 = .ok (.aload_n 1, 1) := by decide +kernel
theorem d_Lw_law_729 : decode code 729 = .ok (.aload_n 0, 1) := by decide +kernel
theorem d_Lw_law_730 : decode code 730 = .ok (.iload_n 3, 1) := by decide +kernel
theorem d_Lw_law_731 : decode code 731 = .ok (.iconst 1, 1) := by decide +kernel
theorem d_Lw_law_732 : decode code 732 = .ok (.iadd, 1) := by decide +kernel
theorem d_Lw_law_733 : decode code 733 = .ok (.iaload, 1) := by decide +kernel
theorem d_Lw_law_734 : decode code 734 = .ok (.aload_n 0, 1) := by decide +kernel
theorem d_Lw_law_735 : decode code 735 = .ok (.iload_n 3, 1) := by decide +kernel
theorem d_Lw_law_736 : decode code 736 = .ok (.iconst 2, 1) := by decide +kernel
theorem d_Lw_law_737 : decode code 737 = .ok (.iadd, 1) := by decide +kernel
theorem d_Lw_law_738 : decode code 738 = .ok (.iaload, 1) := by decide +kernel
theorem d_Lw_law_739 : decode code 739 = .ok (.invokevirtual 92, 3) := by decide +kernel
theorem d_Lw_law_742 : decode code 742 = .ok (.aload_n 2, 1) := by decide +kernel
theorem d_Lw_law_743 : decode code 743 = .ok (.aload_n 0, 1) := by decide +kernel
theorem d_Lw_law_744 : decode code 744 = .ok (.iload_n 3, 1) := by decide +kernel
theorem d_Lw_law_745 : decode code 745 = .ok (.iconst 1, 1) := by decide +kernel
theorem d_Lw_law_746 : decode code 746 = .ok (.iadd, 1) := by decide +kernel
theorem d_Lw_law_747 : decode code 747 = .ok (.iaload, 1) := by decide +kernel
theorem d_Lw_law_748 : decode code 748 = .ok (.aload_n 0, 1) := by decide +kernel
theorem d_Lw_law_749 : decode code 749 = .ok (.iload_n 3, 1) := by decide +kernel
theorem d_Lw_law_750 : decode code 750 = .ok (.iconst 2, 1) := by decide +kernel
theorem d_Lw_law_751 : decode code 751 = .ok (.iadd, 1) := by decide +kernel
theorem d_Lw_law_752 : decode code 752 = .ok (.iaload, 1) := by decide +kernel
theorem d_Lw_law_753 : decode code 753 = .ok (.invokevirtual 95, 3) := by decide +kernel
theorem d_Lw_law_756 : decode code 756 = .ok (.if_icmp .eq 585, 3) := by decide +kernel
theorem d_Lw_law_759 : decode code 759 = .ok (.iconst 0, 1) := by decide +kernel
theorem d_Lw_law_760 : decode code 760 = .ok (.ireturn, 1) := by decide +kernel
theorem d_Lw_law_761 : decode code 761 = .ok (.aload_n 1, 1) := by decide +kernel
theorem d_Lw_law_762 : decode code 762 = .ok (.aload_n 0, 1) := by decide +kernel
theorem d_Lw_law_763 : decode code 763 = .ok (.iload_n 3, 1) := by decide +kernel
theorem d_Lw_law_764 : decode code 764 = .ok (.iconst 1, 1) := by decide +kernel
theorem d_Lw_law_765 : decode code 765 = .ok (.iadd, 1) := by decide +kernel
theorem d_Lw_law_766 : decode code 766 = .ok (.iaload, 1) := by decide +kernel
theorem d_Lw_law_767 : decode code 767 = .ok (.invokevirtual 96, 3) := by decide +kernel
theorem d_Lw_law_770 : decode code 770 = .ok (.aload_n 2, 1) := by decide +kernel
theorem d_Lw_law_771 : decode code 771 = .ok (.aload_n 0, 1) := by decide +kernel
theorem d_Lw_law_772 : decode code 772 = .ok (.iload_n 3, 1) := by decide +kernel
theorem d_Lw_law_773 : decode code 773 = .ok (.iconst 1, 1) := by decide +kernel
theorem d_Lw_law_774 : decode code 774 = .ok (.iadd, 1) := by decide +kernel
theorem d_Lw_law_775 : decode code 775 = .ok (.iaload, 1) := by decide +kernel
theorem d_Lw_law_776 : decode code 776 = .ok (.invokevirtual 99, 3) := by decide +kernel
theorem d_Lw_law_779 : decode code 779 = .ok (.if_icmp .eq 562, 3) := by decide +kernel
theorem d_Lw_law_782 : decode code 782 = .ok (.iconst 0, 1) := by decide +kernel
theorem d_Lw_law_783 : decode code 783 = .ok (.ireturn, 1) := by decide +kernel
theorem d_Lw_law_784 : decode code 784 = .ok (.aload_n 1, 1) := by decide +kernel
theorem d_Lw_law_785 : decode code 785 = .ok (.invokevirtual 100, 3) := by decide +kernel
theorem d_Lw_law_788 : decode code 788 = .ok (.aload_n 2, 1) := by decide +kernel
theorem d_Lw_law_789 : decode code 789 = .ok (.invokevirtual 103, 3) := by decide +kernel
theorem d_Lw_law_792 : decode code 792 = .ok (.if_icmp .eq 549, 3) := by decide +kernel
theorem d_Lw_law_795 : decode code 795 = .ok (.iconst 0, 1) := by decide +kernel
theorem d_Lw_law_796 : decode code 796 = .ok (.ireturn, 1) := by decide +kernel
theorem d_Lw_law_797 : decode code 797 = .ok (.aload_n 1, 1) := by decide +kernel
theorem d_Lw_law_798 : decode code 798 = .ok (.aload_n 0, 1) := by decide +kernel
theorem d_Lw_law_799 : decode code 799 = .ok (.iload_n 3, 1) := by decide +kernel
theorem d_Lw_law_800 : decode code 800 = .ok (.iconst 1, 1) := by decide +kernel
theorem d_Lw_law_801 : decode code 801 = .ok (.iadd, 1) := by decide +kernel
theorem d_Lw_law_802 : decode code 802 = .ok (.iaload, 1) := by decide +kernel
theorem d_Lw_law_803 : decode code 803 = .ok (.aload_n 0, 1) := by decide +kernel
theorem d_Lw_law_804 : decode code 804 = .ok (.iload_n 3, 1) := by decide +kernel
theorem d_Lw_law_805 : decode code 805 = .ok (.iconst 2, 1) := by decide +kernel
theorem d_Lw_law_806 : decode code 806 = .ok (.iadd, 1) := by decide +kernel
theorem d_Lw_law_807 : decode code 807 = .ok (.iaload, 1) := by decide +kernel
theorem d_Lw_law_808 : decode code 808 = .ok (.aload_n 0, 1) := by decide +kernel
theorem d_Lw_law_809 : decode code 809 = .ok (.iload_n 3, 1) := by decide +kernel
theorem d_Lw_law_810 : decode code 810 = .ok (.iconst 3, 1) := by decide +kernel
theorem d_Lw_law_811 : decode code 811 = .ok (.iadd, 1) := by decide +kernel
theorem d_Lw_law_812 : decode code 812 = .ok (.iaload, 1) := by decide +kernel
theorem d_Lw_law_813 : decode code 813 = .ok (.invokevirtual 104, 3) := by decide +kernel
theorem d_Lw_law_816 : decode code 816 = .ok (.aload_n 2, 1) := by decide +kernel
theorem d_Lw_law_817 : decode code 817 = .ok (.aload_n 0, 1) := by decide +kernel
theorem d_Lw_law_818 : decode code 818 = .ok (.iload_n 3, 1) := by decide +kernel
theorem d_Lw_law_819 : decode code 819 = .ok (.iconst 1, 1) := by decide +kernel
theorem d_Lw_law_820 : decode code 820 = .ok (.iadd, 1) := by decide +kernel
theorem d_Lw_law_821 : decode code 821 = .ok (.iaload, 1) := by decide +kernel
theorem d_Lw_law_822 : decode code 822 = .ok (.aload_n 0, 1) := by decide +kernel
theorem d_Lw_law_823 : decode code 823 = .ok (.iload_n 3, 1) := by decide +kernel
theorem d_Lw_law_824 : decode code 824 = .ok (.iconst 2, 1) := by decide +kernel
theorem d_Lw_law_825 : decode code 825 = .ok (.iadd, 1) := by decide +kernel
theorem d_Lw_law_826 : decode code 826 = .ok (.iaload, 1) := by decide +kernel
theorem d_Lw_law_827 : decode code 827 = .ok (.aload_n 0, 1) := by decide +kernel
theorem d_Lw_law_828 : decode code 828 = .ok (.iload_n 3, 1) := by decide +kernel
theorem d_Lw_law_829 : decode code 829 = .ok (.iconst 3, 1) := by decide +kernel
theorem d_Lw_law_830 : decode code 830 = .ok (.iadd, 1) := by decide +kernel
theorem d_Lw_law_831 : decode code 831 = .ok (.iaload, 1) := by decide +kernel
theorem d_Lw_law_832 : decode code 832 = .ok (.invokevirtual 108, 3) := by decide +kernel
theorem d_Lw_law_835 : decode code 835 = .ok (.if_icmp .eq 506, 3) := by decide +kernel
theorem d_Lw_law_838 : decode code 838 = .ok (.iconst 0, 1) := by decide +kernel
theorem d_Lw_law_839 : decode code 839 = .ok (.ireturn, 1) := by decide +kernel
theorem d_Lw_law_840 : decode code 840 = .ok (.aload_n 1, 1) := by decide +kernel
theorem d_Lw_law_841 : decode code 841 = .ok (.aload_n 0, 1) := by decide +kernel
theorem d_Lw_law_842 : decode code 842 = .ok (.iload_n 3, 1) := by decide +kernel
theorem d_Lw_law_843 : decode code 843 = .ok (.iconst 1, 1) := by decide +kernel
theorem d_Lw_law_844 : decode code 844 = .ok (.iadd, 1) := by decide +kernel
theorem d_Lw_law_845 : decode code 845 = .ok (.iaload, 1) := by decide +kernel
theorem d_Lw_law_846 : decode code 846 = .ok (.aload_n 0, 1) := by decide +kernel
theorem d_Lw_law_847 : decode code 847 = .ok (.iload_n 3, 1) := by decide +kernel
theorem d_Lw_law_848 : decode code 848 = .ok (.iconst 2, 1) := by decide +kernel
theorem d_Lw_law_849 : decode code 849 = .ok (.iadd, 1) := by decide +kernel
theorem d_Lw_law_850 : decode code 850 = .ok (.iaload, 1) := by decide +kernel
theorem d_Lw_law_851 : decode code 851 = .ok (.invokevirtual 109, 3) := by decide +kernel
theorem d_Lw_law_854 : decode code 854 = .ok (.aload_n 2, 1) := by decide +kernel
theorem d_Lw_law_855 : decode code 855 = .ok (.aload_n 0, 1) := by decide +kernel
theorem d_Lw_law_856 : decode code 856 = .ok (.iload_n 3, 1) := by decide +kernel
theorem d_Lw_law_857 : decode code 857 = .ok (.iconst 1, 1) := by decide +kernel
theorem d_Lw_law_858 : decode code 858 = .ok (.iadd, 1) := by decide +kernel
theorem d_Lw_law_859 : decode code 859 = .ok (.iaload, 1) := by decide +kernel
theorem d_Lw_law_860 : decode code 860 = .ok (.aload_n 0, 1) := by decide +kernel
theorem d_Lw_law_861 : decode code 861 = .ok (.iload_n 3, 1) := by decide +kernel
theorem d_Lw_law_862 : decode code 862 = .ok (.iconst 2, 1) := by decide +kernel
theorem d_Lw_law_863 : decode code 863 = .ok (.iadd, 1) := by decide +kernel
theorem d_Lw_law_864 : decode code 864 = .ok (.iaload, 1) := by decide +kernel
theorem d_Lw_law_865 : decode code 865 = .ok (.invokevirtual 112, 3) := by decide +kernel
theorem d_Lw_law_868 : decode code 868 = .ok (.if_icmp .eq 473, 3) := by decide +kernel
theorem d_Lw_law_871 : decode code 871 = .ok (.iconst 0, 1) := by decide +kernel
theorem d_Lw_law_872 : decode code 872 = .ok (.ireturn, 1) := by decide +kernel
theorem d_Lw_law_873 : decode code 873 = .ok (.aload_n 1, 1) := by decide +kernel
theorem d_Lw_law_874 : decode code 874 = .ok (.aload_n 0, 1) := by decide +kernel
theorem d_Lw_law_875 : decode code 875 = .ok (.iload_n 3, 1) := by decide +kernel
theorem d_Lw_law_876 : decode code 876 = .ok (.iconst 1, 1) := by decide +kernel
theorem d_Lw_law_877 : decode code 877 = .ok (.iadd, 1) := by decide +kernel
theorem d_Lw_law_878 : decode code 878 = .ok (.iaload, 1) := by decide +kernel
theorem d_Lw_law_879 : decode code 879 = .ok (.aload_n 0, 1) := by decide +kernel
theorem d_Lw_law_880 : decode code 880 = .ok (.iload_n 3, 1) := by decide +kernel
theorem d_Lw_law_881 : decode code 881 = .ok (.iconst 2, 1) := by decide +kernel
theorem d_Lw_law_882 : decode code 882 = .ok (.iadd, 1) := by decide +kernel
theorem d_Lw_law_883 : decode code 883 = .ok (.iaload, 1) := by decide +kernel
theorem d_Lw_law_884 : decode code 884 = .ok (.invokevirtual 113, 3) := by decide +kernel
theorem d_Lw_law_887 : decode code 887 = .ok (.aload_n 2, 1) := by decide +kernel
theorem d_Lw_law_888 : decode code 888 = .ok (.aload_n 0, 1) := by decide +kernel
theorem d_Lw_law_889 : decode code 889 = .ok (.iload_n 3, 1) := by decide +kernel
theorem d_Lw_law_890 : decode code 890 = .ok (.iconst 1, 1) := by decide +kernel
theorem d_Lw_law_891 : decode code 891 = .ok (.iadd, 1) := by decide +kernel
theorem d_Lw_law_892 : decode code 892 = .ok (.iaload, 1) := by decide +kernel
theorem d_Lw_law_893 : decode code 893 = .ok (.aload_n 0, 1) := by decide +kernel
theorem d_Lw_law_894 : decode code 894 = .ok (.iload_n 3, 1) := by decide +kernel
theorem d_Lw_law_895 : decode code 895 = .ok (.iconst 2, 1) := by decide +kernel
theorem d_Lw_law_896 : decode code 896 = .ok (.iadd, 1) := by decide +kernel
theorem d_Lw_law_897 : decode code 897 = .ok (.iaload, 1) := by decide +kernel
theorem d_Lw_law_898 : decode code 898 = .ok (.invokevirtual 116, 3) := by decide +kernel
theorem d_Lw_law_901 : decode code 901 = .ok (.if_icmp .eq 440, 3) := by decide +kernel
theorem d_Lw_law_904 : decode code 904 = .ok (.iconst 0, 1) := by decide +kernel
theorem d_Lw_law_905 : decode code 905 = .ok (.ireturn, 1) := by decide +kernel
theorem d_Lw_law_906 : decode code 906 = .ok (.aload_n 1, 1) := by decide +kernel
theorem d_Lw_law_907 : decode code 907 = .ok (.aload_n 0, 1) := by decide +kernel
theorem d_Lw_law_908 : decode code 908 = .ok (.iload_n 3, 1) := by decide +kernel
theorem d_Lw_law_909 : decode code 909 = .ok (.iconst 1, 1) := by decide +kernel
theorem d_Lw_law_910 : decode code 910 = .ok (.iadd, 1) := by decide +kernel
theorem d_Lw_law_911 : decode code 911 = .ok (.iaload, 1) := by decide +kernel
theorem d_Lw_law_912 : decode code 912 = .ok (.aload_n 0, 1) := by decide +kernel
theorem d_Lw_law_913 : decode code 913 = .ok (.iload_n 3, 1) := by decide +kernel
theorem d_Lw_law_914 : decode code 914 = .ok (.iconst 2, 1) := by decide +kernel
theorem d_Lw_law_915 : decode code 915 = .ok (.iadd, 1) := by decide +kernel
theorem d_Lw_law_916 : decode code 916 = .ok (.iaload, 1) := by decide +kernel
theorem d_Lw_law_917 : decode code 917 = .ok (.invokevirtual 117, 3) := by decide +kernel
theorem d_Lw_law_920 : decode code 920 = .ok (.aload_n 2, 1) := by decide +kernel
theorem d_Lw_law_921 : decode code 921 = .ok (.aload_n 0, 1) := by decide +kernel
theorem d_Lw_law_922 : decode code 922 = .ok (.iload_n 3, 1) := by decide +kernel
theorem d_Lw_law_923 : decode code 923 = .ok (.iconst 1, 1) := by decide +kernel
theorem d_Lw_law_924 : decode code 924 = .ok (.iadd, 1) := by decide +kernel
theorem d_Lw_law_925 : decode code 925 = .ok (.iaload, 1) := by decide +kernel
theorem d_Lw_law_926 : decode code 926 = .ok (.aload_n 0, 1) := by decide +kernel
theorem d_Lw_law_927 : decode code 927 = .ok (.iload_n 3, 1) := by decide +kernel
theorem d_Lw_law_928 : decode code 928 = .ok (.iconst 2, 1) := by decide +kernel
theorem d_Lw_law_929 : decode code 929 = .ok (.iadd, 1) := by decide +kernel
theorem d_Lw_law_930 : decode code 930 = .ok (.iaload, 1) := by decide +kernel
theorem d_Lw_law_931 : decode code 931 = .ok (.invokevirtual 120, 3) := by decide +kernel
theorem d_Lw_law_934 : decode code 934 = .ok (.if_icmp .eq 407, 3) := by decide +kernel
theorem d_Lw_law_937 : decode code 937 = .ok (.iconst 0, 1) := by decide +kernel
theorem d_Lw_law_938 : decode code 938 = .ok (.ireturn, 1) := by decide +kernel
theorem d_Lw_law_939 : decode code 939 = .ok (.aload_n 1, 1) := by decide +kernel
theorem d_Lw_law_940 : decode code 940 = .ok (.aload_n 0, 1) := by decide +kernel
theorem d_Lw_law_941 : decode code 941 = .ok (.iload_n 3, 1) := by decide +kernel
theorem d_Lw_law_942 : decode code 942 = .ok (.iconst 1, 1) := by decide +kernel
theorem d_Lw_law_943 : decode code 943 = .ok (.iadd, 1) := by decide +kernel
theorem d_Lw_law_944 : decode code 944 = .ok (.iaload, 1) := by decide +kernel
theorem d_Lw_law_945 : decode code 945 = .ok (.aload_n 0, 1) := by decide +kernel
theorem d_Lw_law_946 : decode code 946 = .ok (.iload_n 3, 1) := by decide +kernel
theorem d_Lw_law_947 : decode code 947 = .ok (.iconst 2, 1) := by decide +kernel
theorem d_Lw_law_948 : decode code 948 = .ok (.iadd, 1) := by decide +kernel
theorem d_Lw_law_949 : decode code 949 = .ok (.iaload, 1) := by decide +kernel
theorem d_Lw_law_950 : decode code 950 = .ok (.invokevirtual 121, 3) := by decide +kernel
theorem d_Lw_law_953 : decode code 953 = .ok (.aload_n 2, 1) := by decide +kernel
theorem d_Lw_law_954 : decode code 954 = .ok (.aload_n 0, 1) := by decide +kernel
theorem d_Lw_law_955 : decode code 955 = .ok (.iload_n 3, 1) := by decide +kernel
theorem d_Lw_law_956 : decode code 956 = .ok (.iconst 1, 1) := by decide +kernel
theorem d_Lw_law_957 : decode code 957 = .ok (.iadd, 1) := by decide +kernel
theorem d_Lw_law_958 : decode code 958 = .ok (.iaload, 1) := by decide +kernel
theorem d_Lw_law_959 : decode code 959 = .ok (.aload_n 0, 1) := by decide +kernel
theorem d_Lw_law_960 : decode code 960 = .ok (.iload_n 3, 1) := by decide +kernel
theorem d_Lw_law_961 : decode code 961 = .ok (.iconst 2, 1) := by decide +kernel
theorem d_Lw_law_962 : decode code 962 = .ok (.iadd, 1) := by decide +kernel
theorem d_Lw_law_963 : decode code 963 = .ok (.iaload, 1) := by decide +kernel
theorem d_Lw_law_964 : decode code 964 = .ok (.invokevirtual 124, 3) := by decide +kernel
theorem d_Lw_law_967 : decode code 967 = .ok (.if_icmp .eq 374, 3) := by decide +kernel
theorem d_Lw_law_970 : decode code 970 = .ok (.iconst 0, 1) := by decide +kernel
theorem d_Lw_law_971 : decode code 971 = .ok (.ireturn, 1) := by decide +kernel
theorem d_Lw_law_972 : decode code 972 = .ok (.aload_n 1, 1) := by decide +kernel
theorem d_Lw_law_973 : decode code 973 = .ok (.aload_n 0, 1) := by decide +kernel
theorem d_Lw_law_974 : decode code 974 = .ok (.iload_n 3, 1) := by decide +kernel
theorem d_Lw_law_975 : decode code 975 = .ok (.iconst 1, 1) := by decide +kernel
theorem d_Lw_law_976 : decode code 976 = .ok (.iadd, 1) := by decide +kernel
theorem d_Lw_law_977 : decode code 977 = .ok (.iaload, 1) := by decide +kernel
theorem d_Lw_law_978 : decode code 978 = .ok (.aload_n 0, 1) := by decide +kernel
theorem d_Lw_law_979 : decode code 979 = .ok (.iload_n 3, 1) := by decide +kernel
theorem d_Lw_law_980 : decode code 980 = .ok (.iconst 2, 1) := by decide +kernel
theorem d_Lw_law_981 : decode code 981 = .ok (.iadd, 1) := by decide +kernel
theorem d_Lw_law_982 : decode code 982 = .ok (.iaload, 1) := by decide +kernel
theorem d_Lw_law_983 : decode code 983 = .ok (.aload_n 0, 1) := by decide +kernel
theorem d_Lw_law_984 : decode code 984 = .ok (.iload_n 3, 1) := by decide +kernel
theorem d_Lw_law_985 : decode code 985 = .ok (.iconst 3, 1) := by decide +kernel
theorem d_Lw_law_986 : decode code 986 = .ok (.iadd, 1) := by decide +kernel
theorem d_Lw_law_987 : decode code 987 = .ok (.iaload, 1) := by decide +kernel
theorem d_Lw_law_988 : decode code 988 = .ok (.invokevirtual 125, 3) := by decide +kernel
theorem d_Lw_law_991 : decode code 991 = .ok (.aload_n 2, 1) := by decide +kernel
theorem d_Lw_law_992 : decode code 992 = .ok (.aload_n 0, 1) := by decide +kernel
theorem d_Lw_law_993 : decode code 993 = .ok (.iload_n 3, 1) := by decide +kernel
theorem d_Lw_law_994 : decode code 994 = .ok (.iconst 1, 1) := by decide +kernel
theorem d_Lw_law_995 : decode code 995 = .ok (.iadd, 1) := by decide +kernel
theorem d_Lw_law_996 : decode code 996 = .ok (.iaload, 1) := by decide +kernel
theorem d_Lw_law_997 : decode code 997 = .ok (.aload_n 0, 1) := by decide +kernel
theorem d_Lw_law_998 : decode code 998 = .ok (.iload_n 3, 1) := by decide +kernel
theorem d_Lw_law_999 : decode code 999 = .ok (.iconst 2, 1) := by decide +kernel
theorem d_Lw_law_1000 : decode code 1000 = .ok (.iadd, 1) := by decide +kernel
theorem d_Lw_law_1001 : decode code 1001 = .ok (.iaload, 1) := by decide +kernel
theorem d_Lw_law_1002 : decode code 1002 = .ok (.aload_n 0, 1) := by decide +kernel
theorem d_Lw_law_1003 : decode code 1003 = .ok (.iload_n 3, 1) := by decide +kernel
theorem d_Lw_law_1004 : decode code 1004 = .ok (.iconst 3, 1) := by decide +kernel
theorem d_Lw_law_1005 : decode code 1005 = .ok (.iadd, 1) := by decide +kernel
theorem d_Lw_law_1006 : decode code 1006 = .ok (.iaload, 1) := by decide +kernel
theorem d_Lw_law_1007 : decode code 1007 = .ok (.invokevirtual 128, 3) := by decide +kernel
theorem d_Lw_law_1010 : decode code 1010 = .ok (.if_icmp .eq 331, 3) := by decide +kernel
theorem d_Lw_law_1013 : decode code 1013 = .ok (.iconst 0, 1) := by decide +kernel
theorem d_Lw_law_1014 : decode code 1014 = .ok (.ireturn, 1) := by decide +kernel
theorem d_Lw_law_1015 : decode code 1015 = .ok (.aload_n 1, 1) := by decide +kernel
theorem d_Lw_law_1016 : decode code 1016 = .ok (.aload_n 0, 1) := by decide +kernel
theorem d_Lw_law_1017 : decode code 1017 = .ok (.iload_n 3, 1) := by decide +kernel
theorem d_Lw_law_1018 : decode code 1018 = .ok (.iconst 1, 1) := by decide +kernel
theorem d_Lw_law_1019 : decode code 1019 = .ok (.iadd, 1) := by decide +kernel
theorem d_Lw_law_1020 : decode code 1020 = .ok (.iaload, 1) := by decide +kernel
theorem d_Lw_law_1021 : decode code 1021 = .ok (.invokevirtual 129, 3) := by decide +kernel
theorem d_Lw_law_1024 : decode code 1024 = .ok (.aload_n 2, 1) := by decide +kernel
theorem d_Lw_law_1025 : decode code 1025 = .ok (.aload_n 0, 1) := by decide +kernel
theorem d_Lw_law_1026 : decode code 1026 = .ok (.iload_n 3, 1) := by decide +kernel
theorem d_Lw_law_1027 : decode code 1027 = .ok (.iconst 1, 1) := by decide +kernel
theorem d_Lw_law_1028 : decode code 1028 = .ok (.iadd, 1) := by decide +kernel
theorem d_Lw_law_1029 : decode code 1029 = .ok (.iaload, 1) := by decide +kernel
theorem d_Lw_law_1030 : decode code 1030 = .ok (.invokevirtual 132, 3) := by decide +kernel
theorem d_Lw_law_1033 : decode code 1033 = .ok (.if_icmp .eq 308, 3) := by decide +kernel
theorem d_Lw_law_1036 : decode code 1036 = .ok (.iconst 0, 1) := by decide +kernel
theorem d_Lw_law_1037 : decode code 1037 = .ok (.ireturn, 1) := by decide +kernel
theorem d_Lw_law_1038 : decode code 1038 = .ok (.aload_n 1, 1) := by decide +kernel
theorem d_Lw_law_1039 : decode code 1039 = .ok (.aload_n 0, 1) := by decide +kernel
theorem d_Lw_law_1040 : decode code 1040 = .ok (.iload_n 3, 1) := by decide +kernel
theorem d_Lw_law_1041 : decode code 1041 = .ok (.iconst 1, 1) := by decide +kernel
theorem d_Lw_law_1042 : decode code 1042 = .ok (.iadd, 1) := by decide +kernel
theorem d_Lw_law_1043 : decode code 1043 = .ok (.iaload, 1) := by decide +kernel
theorem d_Lw_law_1044 : decode code 1044 = .ok (.aload_n 0, 1) := by decide +kernel
theorem d_Lw_law_1045 : decode code 1045 = .ok (.iload_n 3, 1) := by decide +kernel
theorem d_Lw_law_1046 : decode code 1046 = .ok (.iconst 2, 1) := by decide +kernel
theorem d_Lw_law_1047 : decode code 1047 = .ok (.iadd, 1) := by decide +kernel
theorem d_Lw_law_1048 : decode code 1048 = .ok (.iaload, 1) := by decide +kernel
theorem d_Lw_law_1049 : decode code 1049 = .ok (.aload_n 0, 1) := by decide +kernel
theorem d_Lw_law_1050 : decode code 1050 = .ok (.iload_n 3, 1) := by decide +kernel
theorem d_Lw_law_1051 : decode code 1051 = .ok (.iconst 3, 1) := by decide +kernel
theorem d_Lw_law_1052 : decode code 1052 = .ok (.iadd, 1) := by decide +kernel
theorem d_Lw_law_1053 : decode code 1053 = .ok (.iaload, 1) := by decide +kernel
theorem d_Lw_law_1054 : decode code 1054 = .ok (.invokevirtual 133, 3) := by decide +kernel
theorem d_Lw_law_1057 : decode code 1057 = .ok (.aload_n 2, 1) := by decide +kernel
theorem d_Lw_law_1058 : decode code 1058 = .ok (.aload_n 0, 1) := by decide +kernel
theorem d_Lw_law_1059 : decode code 1059 = .ok (.iload_n 3, 1) := by decide +kernel
theorem d_Lw_law_1060 : decode code 1060 = .ok (.iconst 1, 1) := by decide +kernel
theorem d_Lw_law_1061 : decode code 1061 = .ok (.iadd, 1) := by decide +kernel
theorem d_Lw_law_1062 : decode code 1062 = .ok (.iaload, 1) := by decide +kernel
theorem d_Lw_law_1063 : decode code 1063 = .ok (.aload_n 0, 1) := by decide +kernel
theorem d_Lw_law_1064 : decode code 1064 = .ok (.iload_n 3, 1) := by decide +kernel
theorem d_Lw_law_1065 : decode code 1065 = .ok (.iconst 2, 1) := by decide +kernel
theorem d_Lw_law_1066 : decode code 1066 = .ok (.iadd, 1) := by decide +kernel
theorem d_Lw_law_1067 : decode code 1067 = .ok (.iaload, 1) := by decide +kernel
theorem d_Lw_law_1068 : decode code 1068 = .ok (.aload_n 0, 1) := by decide +kernel
theorem d_Lw_law_1069 : decode code 1069 = .ok (.iload_n 3, 1) := by decide +kernel
theorem d_Lw_law_1070 : decode code 1070 = .ok (.iconst 3, 1) := by decide +kernel
theorem d_Lw_law_1071 : decode code 1071 = .ok (.iadd, 1) := by decide +kernel
theorem d_Lw_law_1072 : decode code 1072 = .ok (.iaload, 1) := by decide +kernel
theorem d_Lw_law_1073 : decode code 1073 = .ok (.invokevirtual 136, 3) := by decide +kernel
theorem d_Lw_law_1076 : decode code 1076 = .ok (.if_icmp .eq 265, 3) := by decide +kernel
theorem d_Lw_law_1079 : decode code 1079 = .ok (.iconst 0, 1) := by decide +kernel
theorem d_Lw_law_1080 : decode code 1080 = .ok (.ireturn, 1) := by decide +kernel
theorem d_Lw_law_1081 : decode code 1081 = .ok (.aload_n 1, 1) := by decide +kernel
theorem d_Lw_law_1082 : decode code 1082 = .ok (.aload_n 0, 1) := by decide +kernel
theorem d_Lw_law_1083 : decode code 1083 = .ok (.iload_n 3, 1) := by decide +kernel
theorem d_Lw_law_1084 : decode code 1084 = .ok (.iconst 1, 1) := by decide +kernel
theorem d_Lw_law_1085 : decode code 1085 = .ok (.iadd, 1) := by decide +kernel
theorem d_Lw_law_1086 : decode code 1086 = .ok (.iaload, 1) := by decide +kernel
theorem d_Lw_law_1087 : decode code 1087 = .ok (.aload_n 0, 1) := by decide +kernel
theorem d_Lw_law_1088 : decode code 1088 = .ok (.iload_n 3, 1) := by decide +kernel
theorem d_Lw_law_1089 : decode code 1089 = .ok (.iconst 2, 1) := by decide +kernel
theorem d_Lw_law_1090 : decode code 1090 = .ok (.iadd, 1) := by decide +kernel
theorem d_Lw_law_1091 : decode code 1091 = .ok (.iaload, 1) := by decide +kernel
theorem d_Lw_law_1092 : decode code 1092 = .ok (.aload_n 0, 1) := by decide +kernel
theorem d_Lw_law_1093 : decode code 1093 = .ok (.iload_n 3, 1) := by decide +kernel
theorem d_Lw_law_1094 : decode code 1094 = .ok (.iconst 3, 1) := by decide +kernel
theorem d_Lw_law_1095 : decode code 1095 = .ok (.iadd, 1) := by decide +kernel
theorem d_Lw_law_1096 : decode code 1096 = .ok (.iaload, 1) := by decide +kernel
theorem d_Lw_law_1097 : decode code 1097 = .ok (.invokevirtual 137, 3) := by decide +kernel
theorem d_Lw_law_1100 : decode code 1100 = .ok (.aload_n 2, 1) := by decide +kernel
theorem d_Lw_law_1101 : decode code 1101 = .ok (.aload_n 0, 1) := by decide +kernel
theorem d_Lw_law_1102 : decode code 1102 = .ok (.iload_n 3, 1) := by decide +kernel
theorem d_Lw_law_1103 : decode code 1103 = .ok (.iconst 1, 1) := by decide +kernel
theorem d_Lw_law_1104 : decode code 1104 = .ok (.iadd, 1) := by decide +kernel
theorem d_Lw_law_1105 : decode code 1105 = .ok (.iaload, 1) := by decide +kernel
theorem d_Lw_law_1106 : decode code 1106 = .ok (.aload_n 0, 1) := by decide +kernel
theorem d_Lw_law_1107 : decode code 1107 = .ok (.iload_n 3, 1) := by decide +kernel
theorem d_Lw_law_1108 : decode code 1108 = .ok (.iconst 2, 1) := by decide +kernel
theorem d_Lw_law_1109 : decode code 1109 = .ok (.iadd, 1) := by decide +kernel
theorem d_Lw_law_1110 : decode code 1110 = .ok (.iaload, 1) := by decide +kernel
theorem d_Lw_law_1111 : decode code 1111 = .ok (.aload_n 0, 1) := by decide +kernel
theorem d_Lw_law_1112 : decode code 1112 = .ok (.iload_n 3, 1) := by decide +kernel
theorem d_Lw_law_1113 : decode code 1113 = .ok (.iconst 3, 1) := by decide +kernel
theorem d_Lw_law_1114 : decode code 1114 = .ok (.iadd, 1) := by decide +kernel
theorem d_Lw_law_1115 : decode code 1115 = .ok (.iaload, 1) := by decide +kernel
theorem d_Lw_law_1116 : decode code 1116 = .ok (.invokevirtual 140, 3) := by decide +kernel
theorem d_Lw_law_1119 : decode code 1119 = .ok (.if_icmp .eq 222, 3) := by decide +kernel
theorem d_Lw_law_1122 : decode code 1122 = .ok (.iconst 0, 1) := by decide +kernel
theorem d_Lw_law_1123 : decode code 1123 = .ok (.ireturn, 1) := by decide +kernel
theorem d_Lw_law_1124 : decode code 1124 = .ok (.aload_n 1, 1) := by decide +kernel
theorem d_Lw_law_1125 : decode code 1125 = .ok (.aload_n 0, 1) := by decide +kernel
theorem d_Lw_law_1126 : decode code 1126 = .ok (.iload_n 3, 1) := by decide +kernel
theorem d_Lw_law_1127 : decode code 1127 = .ok (.iconst 1, 1) := by decide +kernel
theorem d_Lw_law_1128 : decode code 1128 = .ok (.iadd, 1) := by decide +kernel
theorem d_Lw_law_1129 : decode code 1129 = .ok (.iaload, 1) := by decide +kernel
theorem d_Lw_law_1130 : decode code 1130 = .ok (.aload_n 0, 1) := by decide +kernel
theorem d_Lw_law_1131 : decode code 1131 = .ok (.iload_n 3, 1) := by decide +kernel
theorem d_Lw_law_1132 : decode code 1132 = .ok (.iconst 2, 1) := by decide +kernel
theorem d_Lw_law_1133 : decode code 1133 = .ok (.iadd, 1) := by decide +kernel
theorem d_Lw_law_1134 : decode code 1134 = .ok (.iaload, 1) := by decide +kernel
theorem d_Lw_law_1135 : decode code 1135 = .ok (.aload_n 0, 1) := by decide +kernel
theorem d_Lw_law_1136 : decode code 1136 = .ok (.iload_n 3, 1) := by decide +kernel
theorem d_Lw_law_1137 : decode code 1137 = .ok (.iconst 3, 1) := by decide +kernel
theorem d_Lw_law_1138 : decode code 1138 = .ok (.iadd, 1) := by decide +kernel
theorem d_Lw_law_1139 : decode code 1139 = .ok (.iaload, 1) := by decide +kernel
theorem d_Lw_law_1140 : decode code 1140 = .ok (.aload_n 0, 1) := by decide +kernel
theorem d_Lw_law_1141 : decode code 1141 = .ok (.iload_n 3, 1) := by decide +kernel
theorem d_Lw_law_1142 : decode code 1142 = .ok (.iconst 4, 1) := by decide +kernel
theorem d_Lw_law_1143 : decode code 1143 = .ok (.iadd, 1) := by decide +kernel
theorem d_Lw_law_1144 : decode code 1144 = .ok (.iaload, 1) := by decide +kernel
theorem d_Lw_law_1145 : decode code 1145 = .ok (.aload_n 0, 1) := by decide +kernel
theorem d_Lw_law_1146 : decode code 1146 = .ok (.iload_n 3, 1) := by decide +kernel
theorem d_Lw_law_1147 : decode code 1147 = .ok (.iconst 5, 1) := by decide +kernel
theorem d_Lw_law_1148 : decode code 1148 = .ok (.iadd, 1) := by decide +kernel
theorem d_Lw_law_1149 : decode code 1149 = .ok (.iaload, 1) := by decide +kernel
theorem d_Lw_law_1150 : decode code 1150 = .ok (.invokevirtual 141, 3) := by decide +kernel
theorem d_Lw_law_1153 : decode code 1153 = .ok (.aload_n 2, 1) := by decide +kernel
theorem d_Lw_law_1154 : decode code 1154 = .ok (.aload_n 0, 1) := by decide +kernel
theorem d_Lw_law_1155 : decode code 1155 = .ok (.iload_n 3, 1) := by decide +kernel
theorem d_Lw_law_1156 : decode code 1156 = .ok (.iconst 1, 1) := by decide +kernel
theorem d_Lw_law_1157 : decode code 1157 = .ok (.iadd, 1) := by decide +kernel
theorem d_Lw_law_1158 : decode code 1158 = .ok (.iaload, 1) := by decide +kernel
theorem d_Lw_law_1159 : decode code 1159 = .ok (.aload_n 0, 1) := by decide +kernel
theorem d_Lw_law_1160 : decode code 1160 = .ok (.iload_n 3, 1) := by decide +kernel
theorem d_Lw_law_1161 : decode code 1161 = .ok (.iconst 2, 1) := by decide +kernel
theorem d_Lw_law_1162 : decode code 1162 = .ok (.iadd, 1) := by decide +kernel
theorem d_Lw_law_1163 : decode code 1163 = .ok (.iaload, 1) := by decide +kernel
theorem d_Lw_law_1164 : decode code 1164 = .ok (.aload_n 0, 1) := by decide +kernel
theorem d_Lw_law_1165 : decode code 1165 = .ok (.iload_n 3, 1) := by decide +kernel
theorem d_Lw_law_1166 : decode code 1166 = .ok (.iconst 3, 1) := by decide +kernel
theorem d_Lw_law_1167 : decode code 1167 = .ok (.iadd, 1) := by decide +kernel
theorem d_Lw_law_1168 : decode code 1168 = .ok (.iaload, 1) := by decide +kernel
theorem d_Lw_law_1169 : decode code 1169 = .ok (.aload_n 0, 1) := by decide +kernel
theorem d_Lw_law_1170 : decode code 1170 = .ok (.iload_n 3, 1) := by decide +kernel
theorem d_Lw_law_1171 : decode code 1171 = .ok (.iconst 4, 1) := by decide +kernel
theorem d_Lw_law_1172 : decode code 1172 = .ok (.iadd, 1) := by decide +kernel
theorem d_Lw_law_1173 : decode code 1173 = .ok (.iaload, 1) := by decide +kernel
theorem d_Lw_law_1174 : decode code 1174 = .ok (.aload_n 0, 1) := by decide +kernel
theorem d_Lw_law_1175 : decode code 1175 = .ok (.iload_n 3, 1) := by decide +kernel
theorem d_Lw_law_1176 : decode code 1176 = .ok (.iconst 5, 1) := by decide +kernel
theorem d_Lw_law_1177 : decode code 1177 = .ok (.iadd, 1) := by decide +kernel
theorem d_Lw_law_1178 : decode code 1178 = .ok (.iaload, 1) := by decide +kernel
theorem d_Lw_law_1179 : decode code 1179 = .ok (.invokevirtual 145, 3) := by decide +kernel
theorem d_Lw_law_1182 : decode code 1182 = .ok (.if_icmp .eq 159, 3) := by decide +kernel
theorem d_Lw_law_1185 : decode code 1185 = .ok (.iconst 0, 1) := by decide +kernel
theorem d_Lw_law_1186 : decode code 1186 = .ok (.ireturn, 1) := by decide +kernel
theorem d_Lw_law_1187 : decode code 1187 = .ok (.aload_n 1, 1) := by decide +kernel
theorem d_Lw_law_1188 : decode code 1188 = .ok (.aload_n 0, 1) := by decide +kernel
theorem d_Lw_law_1189 : decode code 1189 = .ok (.iload_n 3, 1) := by decide +kernel
theorem d_Lw_law_1190 : decode code 1190 = .ok (.iconst 1, 1) := by decide +kernel
theorem d_Lw_law_1191 : decode code 1191 = .ok (.iadd, 1) := by decide +kernel
theorem d_Lw_law_1192 : decode code 1192 = .ok (.iaload, 1) := by decide +kernel
theorem d_Lw_law_1193 : decode code 1193 = .ok (.invokevirtual 146, 3) := by decide +kernel
theorem d_Lw_law_1196 : decode code 1196 = .ok (.aload_n 2, 1) := by decide +kernel
theorem d_Lw_law_1197 : decode code 1197 = .ok (.aload_n 0, 1) := by decide +kernel
theorem d_Lw_law_1198 : decode code 1198 = .ok (.iload_n 3, 1) := by decide +kernel
theorem d_Lw_law_1199 : decode code 1199 = .ok (.iconst 1, 1) := by decide +kernel
theorem d_Lw_law_1200 : decode code 1200 = .ok (.iadd, 1) := by decide +kernel
theorem d_Lw_law_1201 : decode code 1201 = .ok (.iaload, 1) := by decide +kernel
theorem d_Lw_law_1202 : decode code 1202 = .ok (.invokevirtual 149, 3) := by decide +kernel
theorem d_Lw_law_1205 : decode code 1205 = .ok (.if_icmp .eq 136, 3) := by decide +kernel
theorem d_Lw_law_1208 : decode code 1208 = .ok (.iconst 0, 1) := by decide +kernel
theorem d_Lw_law_1209 : decode code 1209 = .ok (.ireturn, 1) := by decide +kernel
theorem d_Lw_law_1210 : decode code 1210 = .ok (.aload_n 1, 1) := by decide +kernel
theorem d_Lw_law_1211 : decode code 1211 = .ok (.aload_n 0, 1) := by decide +kernel
theorem d_Lw_law_1212 : decode code 1212 = .ok (.iload_n 3, 1) := by decide +kernel
theorem d_Lw_law_1213 : decode code 1213 = .ok (.iconst 1, 1) := by decide +kernel
theorem d_Lw_law_1214 : decode code 1214 = .ok (.iadd, 1) := by decide +kernel
theorem d_Lw_law_1215 : decode code 1215 = .ok (.iaload, 1) := by decide +kernel
theorem d_Lw_law_1216 : decode code 1216 = .ok (.invokevirtual 150, 3) := by decide +kernel
theorem d_Lw_law_1219 : decode code 1219 = .ok (.aload_n 2, 1) := by decide +kernel
theorem d_Lw_law_1220 : decode code 1220 = .ok (.aload_n 0, 1) := by decide +kernel
theorem d_Lw_law_1221 : decode code 1221 = .ok (.iload_n 3, 1) := by decide +kernel
theorem d_Lw_law_1222 : decode code 1222 = .ok (.iconst 1, 1) := by decide +kernel
theorem d_Lw_law_1223 : decode code 1223 = .ok (.iadd, 1) := by decide +kernel
theorem d_Lw_law_1224 : decode code 1224 = .ok (.iaload, 1) := by decide +kernel
theorem d_Lw_law_1225 : decode code 1225 = .ok (.invokevirtual 153, 3) := by decide +kernel
theorem d_Lw_law_1228 : decode code 1228 = .ok (.if_icmp .eq 113, 3) := by decide +kernel
theorem d_Lw_law_1231 : decode code 1231 = .ok (.iconst 0, 1) := by decide +kernel
theorem d_Lw_law_1232 : decode code 1232 = .ok (.ireturn, 1) := by decide +kernel
theorem d_Lw_law_1233 : decode code 1233 = .ok (.aload_n 1, 1) := by decide +kernel
theorem d_Lw_law_1234 : decode code 1234 = .ok (.invokevirtual 154, 3) := by decide +kernel
theorem d_Lw_law_1237 : decode code 1237 = .ok (.aload_n 2, 1) := by decide +kernel
theorem d_Lw_law_1238 : decode code 1238 = .ok (.invokevirtual 157, 3) := by decide +kernel
theorem d_Lw_law_1241 : decode code 1241 = .ok (.if_icmp .eq 100, 3) := by decide +kernel
theorem d_Lw_law_1244 : decode code 1244 = .ok (.iconst 0, 1) := by decide +kernel
theorem d_Lw_law_1245 : decode code 1245 = .ok (.ireturn, 1) := by decide +kernel
theorem d_Lw_law_1246 : decode code 1246 = .ok (.aload_n 1, 1) := by decide +kernel
theorem d_Lw_law_1247 : decode code 1247 = .ok (.invokevirtual 158, 3) := by decide +kernel
theorem d_Lw_law_1250 : decode code 1250 = .ok (.aload_n 2, 1) := by decide +kernel
theorem d_Lw_law_1251 : decode code 1251 = .ok (.invokevirtual 161, 3) := by decide +kernel
theorem d_Lw_law_1254 : decode code 1254 = .ok (.if_icmp .eq 87, 3) := by decide +kernel
theorem d_Lw_law_1257 : decode code 1257 = .ok (.iconst 0, 1) := by decide +kernel
theorem d_Lw_law_1258 : decode code 1258 = .ok (.ireturn, 1) := by decide +kernel
theorem d_Lw_law_1259 : decode code 1259 = .ok (.aload_n 1, 1) := by decide +kernel
theorem d_Lw_law_1260 : decode code 1260 = .ok (.aload_n 0, 1) := by decide +kernel
theorem d_Lw_law_1261 : decode code 1261 = .ok (.iload_n 3, 1) := by decide +kernel
theorem d_Lw_law_1262 : decode code 1262 = .ok (.iconst 1, 1) := by decide +kernel
theorem d_Lw_law_1263 : decode code 1263 = .ok (.iadd, 1) := by decide +kernel
theorem d_Lw_law_1264 : decode code 1264 = .ok (.iaload, 1) := by decide +kernel
theorem d_Lw_law_1265 : decode code 1265 = .ok (.invokevirtual 162, 3) := by decide +kernel
theorem d_Lw_law_1268 : decode code 1268 = .ok (.aload_n 2, 1) := by decide +kernel
theorem d_Lw_law_1269 : decode code 1269 = .ok (.aload_n 0, 1) := by decide +kernel
theorem d_Lw_law_1270 : decode code 1270 = .ok (.iload_n 3, 1) := by decide +kernel
theorem d_Lw_law_1271 : decode code 1271 = .ok (.iconst 1, 1) := by decide +kernel
theorem d_Lw_law_1272 : decode code 1272 = .ok (.iadd, 1) := by decide +kernel
theorem d_Lw_law_1273 : decode code 1273 = .ok (.iaload, 1) := by decide +kernel
theorem d_Lw_law_1274 : decode code 1274 = .ok (.invokevirtual 165, 3) := by decide +kernel
theorem d_Lw_law_1277 : decode code 1277 = .ok (.if_icmp .eq 64, 3) := by decide +kernel
theorem d_Lw_law_1280 : decode code 1280 = .ok (.iconst 0, 1) := by decide +kernel
theorem d_Lw_law_1281 : decode code 1281 = .ok (.ireturn, 1) := by decide +kernel
theorem d_Lw_law_1282 : decode code 1282 = .ok (.aload_n 1, 1) := by decide +kernel
theorem d_Lw_law_1283 : decode code 1283 = .ok (.invokevirtual 166, 3) := by decide +kernel
theorem d_Lw_law_1286 : decode code 1286 = .ok (.aload_n 2, 1) := by decide +kernel
theorem d_Lw_law_1287 : decode code 1287 = .ok (.invokevirtual 169, 3) := by decide +kernel
theorem d_Lw_law_1290 : decode code 1290 = .ok (.if_icmp .eq 51, 3) := by decide +kernel
theorem d_Lw_law_1293 : decode code 1293 = .ok (.iconst 0, 1) := by decide +kernel
theorem d_Lw_law_1294 : decode code 1294 = .ok (.ireturn, 1) := by decide +kernel
theorem d_Lw_law_1295 : decode code 1295 = .ok (.aload_n 1, 1) := by decide +kernel
theorem d_Lw_law_1296 : decode code 1296 = .ok (.aload_n 0, 1) := by decide +kernel
theorem d_Lw_law_1297 : decode code 1297 = .ok (.iload_n 3, 1) := by decide +kernel
theorem d_Lw_law_1298 : decode code 1298 = .ok (.iconst 1, 1) := by decide +kernel
theorem d_Lw_law_1299 : decode code 1299 = .ok (.iadd, 1) := by decide +kernel
theorem d_Lw_law_1300 : decode code 1300 = .ok (.iaload, 1) := by decide +kernel
theorem d_Lw_law_1301 : decode code 1301 = .ok (.invokevirtual 170, 3) := by decide +kernel
theorem d_Lw_law_1304 : decode code 1304 = .ok (.aload_n 2, 1) := by decide +kernel
theorem d_Lw_law_1305 : decode code 1305 = .ok (.aload_n 0, 1) := by decide +kernel
theorem d_Lw_law_1306 : decode code 1306 = .ok (.iload_n 3, 1) := by decide +kernel
theorem d_Lw_law_1307 : decode code 1307 = .ok (.iconst 1, 1) := by decide +kernel
theorem d_Lw_law_1308 : decode code 1308 = .ok (.iadd, 1) := by decide +kernel
theorem d_Lw_law_1309 : decode code 1309 = .ok (.iaload, 1) := by decide +kernel
theorem d_Lw_law_1310 : decode code 1310 = .ok (.invokevirtual 173, 3) := by decide +kernel
theorem d_Lw_law_1313 : decode code 1313 = .ok (.if_icmp .eq 28, 3) := by decide +kernel
theorem d_Lw_law_1316 : decode code 1316 = .ok (.iconst 0, 1) := by decide +kernel
theorem d_Lw_law_1317 : decode code 1317 = .ok (.ireturn, 1) := by decide +kernel
theorem d_Lw_law_1318 : decode code 1318 = .ok (.aload_n 1, 1) := by decide +kernel
theorem d_Lw_law_1319 : decode code 1319 = .ok (.aload_n 0, 1) := by decide +kernel
theorem d_Lw_law_1320 : decode code 1320 = .ok (.iload_n 3, 1) := by decide +kernel
theorem d_Lw_law_1321 : decode code 1321 = .ok (.iconst 1, 1) := by decide +kernel
theorem d_Lw_law_1322 : decode code 1322 = .ok (.iadd, 1) := by decide +kernel
theorem d_Lw_law_1323 : decode code 1323 = .ok (.iaload, 1) := by decide +kernel
theorem d_Lw_law_1324 : decode code 1324 = .ok (.invokevirtual 174, 3) := by decide +kernel
theorem d_Lw_law_1327 : decode code 1327 = .ok (.aload_n 2, 1) := by decide +kernel
theorem d_Lw_law_1328 : decode code 1328 = .ok (.aload_n 0, 1) := by decide +kernel
theorem d_Lw_law_1329 : decode code 1329 = .ok (.iload_n 3, 1) := by decide +kernel
theorem d_Lw_law_1330 : decode code 1330 = .ok (.iconst 1, 1) := by decide +kernel
theorem d_Lw_law_1331 : decode code 1331 = .ok (.iadd, 1) := by decide +kernel
theorem d_Lw_law_1332 : decode code 1332 = .ok (.iaload, 1) := by decide +kernel
theorem d_Lw_law_1333 : decode code 1333 = .ok (.invokevirtual 177, 3) := by decide +kernel
theorem d_Lw_law_1336 : decode code 1336 = .ok (.if_icmp .eq 5, 3) := by decide +kernel
theorem d_Lw_law_1339 : decode code 1339 = .ok (.iconst 0, 1) := by decide +kernel
theorem d_Lw_law_1340 : decode code 1340 = .ok (.ireturn, 1) := by decide +kernel
theorem d_Lw_law_1341 : decode code 1341 = .ok (.iinc 3 6, 3) := by decide +kernel
theorem d_Lw_law_1344 : decode code 1344 = .ok (.goto (-1326), 3) := by decide +kernel
theorem d_Lw_law_1347 : decode code 1347 = .ok (.iconst 1, 1) := by decide +kernel
theorem d_Lw_law_1348 : decode code 1348 = .ok (.ireturn, 1) := by decide +kernel
