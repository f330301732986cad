theorem d_rp_codeShift_0 : decode prog_1_method_22_code 0 = .ok (.iconst 2, 1) := by decide +kernel
theorem d_rp_codeShift_1 : decode prog_1_method_22_code 1 = .ok (.bipush 6, 2) := by decide +kernel
theorem d_rp_codeShift_3 : decode prog_1_method_22_code 3 = .ok (.iload_n 0, 1) := by decide +kernel
theorem d_rp_codeShift_4 : decode prog_1_method_22_code 4 = .ok (.isub, 1) := by decide +kernel
theorem d_rp_codeShift_5 : decode prog_1_method_22_code 5 = .ok (.imul, 1) := by decide +kernel
theorem d_rp_codeShift_6 : decode prog_1_method_22_code 6 = .ok (.ireturn, 1) := by decide +kernel
theorem d_rp_costIn_0 : decode prog_1_method_23_code 0 = .ok (.lload_n 0, 1) := by decide +kernel
theorem d_rp_costIn_1 : decode prog_1_method_23_code 1 = .ok (.bipush 14, 2) := by decide +kernel
theorem d_rp_costIn_3 : decode prog_1_method_23_code 3 = .ok (.lshr, 1) := by decide +kernel
theorem d_rp_costIn_4 : decode prog_1_method_23_code 4 = .ok (.lreturn, 1) := by decide +kernel
theorem d_rp_vehicleIn_0 : decode prog_1_method_24_code 0 = .ok (.lload_n 0, 1) := by decide +kernel
theorem d_rp_vehicleIn_1 : decode prog_1_method_24_code 1 = .ok (.iload_n 2, 1) := by decide +kernel
theorem d_rp_vehicleIn_2 : decode prog_1_method_24_code 2 = .ok (.invokestatic 172, 3) := by decide +kernel
theorem d_rp_vehicleIn_5 : decode prog_1_method_24_code 5 = .ok (.lshr, 1) := by decide +kernel
theorem d_rp_vehicleIn_6 : decode prog_1_method_24_code 6 = .ok (.l2i, 1) := by decide +kernel
theorem d_rp_vehicleIn_7 : decode prog_1_method_24_code 7 = .ok (.iconst 3, 1) := by decide +kernel
theorem d_rp_vehicleIn_8 : decode prog_1_method_24_code 8 = .ok (.iand, 1) := by decide +kernel
theorem d_rp_vehicleIn_9 : decode prog_1_method_24_code 9 = .ok (.ireturn, 1) := by decide +kernel
theorem d_rp_setIn_0 : decode prog_1_method_25_code 0 = .ok (.iconst 0, 1) := by decide +kernel
theorem d_rp_setIn_1 : decode prog_1_method_25_code 1 = .ok (.istore 4, 2) := by decide +kernel
theorem d_rp_setIn_3 : decode prog_1_method_25_code 3 = .ok (.iconst 0, 1) := by decide +kernel
theorem d_rp_setIn_4 : decode prog_1_method_25_code 4 = .ok (.istore 5, 2) := by decide +kernel
theorem d_rp_setIn_6 : decode prog_1_method_25_code 6 = .ok (.iload 5, 2) := by decide +kernel
theorem d_rp_setIn_8 : decode prog_1_method_25_code 8 = .ok (.iload_n 3, 1) := by decide +kernel
theorem d_rp_setIn_9 : decode prog_1_method_25_code 9 = .ok (.if_icmp .ge 28, 3) := by decide +kernel
theorem d_rp_setIn_12 : decode prog_1_method_25_code 12 = .ok (.lload_n 0, 1) := by decide +kernel
theorem d_rp_setIn_13 : decode prog_1_method_25_code 13 = .ok (.iload 5, 2) := by decide +kernel
theorem d_rp_setIn_15 : decode prog_1_method_25_code 15 = .ok (.invokestatic 175, 3) := by decide +kernel
theorem d_rp_setIn_18 : decode prog_1_method_25_code 18 = .ok (.iload_n 2, 1) := by decide +kernel
theorem d_rp_setIn_19 : decode prog_1_method_25_code 19 = .ok (.if_icmp .ne 12, 3) := by decide +kernel
theorem d_rp_setIn_22 : decode prog_1_method_25_code 22 = .ok (.iload 4, 2) := by decide +kernel
theorem d_rp_setIn_24 : decode prog_1_method_25_code 24 = .ok (.iload 5, 2) := by decide +kernel
theorem d_rp_setIn_26 : decode prog_1_method_25_code 26 = .ok (.invokestatic 179, 3) := by decide +kernel
theorem d_rp_setIn_29 : decode prog_1_method_25_code 29 = .ok (.istore 4, 2) := by decide +kernel
theorem d_rp_setIn_31 : decode prog_1_method_25_code 31 = .ok (.iinc 5 1, 3) := by decide +kernel
theorem d_rp_setIn_34 : decode prog_1_method_25_code 34 = .ok (.goto (-28), 3) := by decide +kernel
theorem d_rp_setIn_37 : decode prog_1_method_25_code 37 = .ok (.iload 4, 2) := by decide +kernel
theorem d_rp_setIn_39 : decode prog_1_method_25_code 39 = .ok (.ireturn, 1) := by decide +kernel
theorem d_md_init_0 : decode prog_7_method_1_code 0 = .ok (.aload_n 0, 1) := by decide +kernel
theorem d_md_init_1 : decode prog_7_method_1_code 1 = .ok (.invokespecial 1, 3) := by decide +kernel
theorem d_md_init_4 : decode prog_7_method_1_code 4 = .ok (.aload_n 0, 1) := by decide +kernel
theorem d_md_init_5 : decode prog_7_method_1_code 5 = .ok (.bipush 7, 2) := by decide +kernel
theorem d_md_init_7 : decode prog_7_method_1_code 7 = .ok (.newarray .int, 2) := by decide +kernel
theorem d_md_init_9 : decode prog_7_method_1_code 9 = .ok (.putfield 7, 3) := by decide +kernel
theorem d_md_init_12 : decode prog_7_method_1_code 12 = .ok (.aload_n 0, 1) := by decide +kernel
theorem d_md_init_13 : decode prog_7_method_1_code 13 = .ok (.bipush 7, 2) := by decide +kernel
theorem d_md_init_15 : decode prog_7_method_1_code 15 = .ok (.newarray .int, 2) := by decide +kernel
theorem d_md_init_17 : decode prog_7_method_1_code 17 = .ok (.putfield 13, 3) := by decide +kernel
theorem d_md_init_20 : decode prog_7_method_1_code 20 = .ok (.aload_n 0, 1) := by decide +kernel
theorem d_md_init_21 : decode prog_7_method_1_code 21 = .ok (.bipush 7, 2) := by decide +kernel
theorem d_md_init_23 : decode prog_7_method_1_code 23 = .ok (.newarray .int, 2) := by decide +kernel
theorem d_md_init_25 : decode prog_7_method_1_code 25 = .ok (.putfield 16, 3) := by decide +kernel
theorem d_md_init_28 : decode prog_7_method_1_code 28 = .ok (.aload_n 0, 1) := by decide +kernel
theorem d_md_init_29 : decode prog_7_method_1_code 29 = .ok (.bipush 7, 2) := by decide +kernel
theorem d_md_init_31 : decode prog_7_method_1_code 31 = .ok (.newarray .int, 2) := by decide +kernel
theorem d_md_init_33 : decode prog_7_method_1_code 33 = .ok (.putfield 19, 3) := by decide +kernel
theorem d_md_init_36 : decode prog_7_method_1_code 36 = .ok (.aload_n 0, 1) := by decide +kernel
theorem d_md_init_37 : decode prog_7_method_1_code 37 = .ok (.bipush 7, 2) := by decide +kernel
theorem d_md_init_39 : decode prog_7_method_1_code 39 = .ok (.newarray .long, 2) := by decide +kernel
theorem d_md_init_41 : decode prog_7_method_1_code 41 = .ok (.putfield 22, 3) := by decide +kernel
theorem d_md_init_44 : decode prog_7_method_1_code 44 = .ok (.aload_n 0, 1) := by decide +kernel
theorem d_md_init_45 : decode prog_7_method_1_code 45 = .ok (.bipush 7, 2) := by decide +kernel
theorem d_md_init_47 : decode prog_7_method_1_code 47 = .ok (.newarray .int, 2) := by decide +kernel
theorem d_md_init_49 : decode prog_7_method_1_code 49 = .ok (.putfield 26, 3) := by decide +kernel
theorem d_md_init_52 : decode prog_7_method_1_code 52 = .ok (.aload_n 0, 1) := by decide +kernel
theorem d_md_init_53 : decode prog_7_method_1_code 53 = .ok (.bipush 49, 2) := by decide +kernel
theorem d_md_init_55 : decode prog_7_method_1_code 55 = .ok (.newarray .boolean, 2) := by decide +kernel
theorem d_md_init_57 : decode prog_7_method_1_code 57 = .ok (.putfield 29, 3) := by decide +kernel
theorem d_md_init_60 : decode prog_7_method_1_code 60 = .ok (.aload_n 0, 1) := by decide +kernel
theorem d_md_init_61 : decode prog_7_method_1_code 61 = .ok (.bipush 49, 2) := by decide +kernel
theorem d_md_init_63 : decode prog_7_method_1_code 63 = .ok (.newarray .boolean, 2) := by decide +kernel
theorem d_md_init_65 : decode prog_7_method_1_code 65 = .ok (.putfield 33, 3) := by decide +kernel
theorem d_md_init_68 : decode prog_7_method_1_code 68 = .ok (.aload_n 0, 1) := by decide +kernel
theorem d_md_init_69 : decode prog_7_method_1_code 69 = .ok (.iconst 3, 1) := by decide +kernel
theorem d_md_init_70 : decode prog_7_method_1_code 70 = .ok (.newarray .int, 2) := by decide +kernel
theorem d_md_init_72 : decode prog_7_method_1_code 72 = .ok (.putfield 36, 3) := by decide +kernel
theorem d_md_init_75 : decode prog_7_method_1_code 75 = .ok (.aload_n 0, 1) := by decide +kernel
theorem d_md_init_76 : decode prog_7_method_1_code 76 = .ok (.iconst 3, 1) := by decide +kernel
theorem d_md_init_77 : decode prog_7_method_1_code 77 = .ok (.newarray .int, 2) := by decide +kernel
theorem d_md_init_79 : decode prog_7_method_1_code 79 = .ok (.putfield 39, 3) := by decide +kernel
theorem d_md_init_82 : decode prog_7_method_1_code 82 = .ok (.aload_n 0, 1) := by decide +kernel
theorem d_md_init_83 : decode prog_7_method_1_code 83 = .ok (.iconst 3, 1) := by decide +kernel
theorem d_md_init_84 : decode prog_7_method_1_code 84 = .ok (.newarray .int, 2) := by decide +kernel
theorem d_md_init_86 : decode prog_7_method_1_code 86 = .ok (.putfield 42, 3) := by decide +kernel
theorem d_md_init_89 : decode prog_7_method_1_code 89 = .ok (.aload_n 0, 1) := by decide +kernel
theorem d_md_init_90 : decode prog_7_method_1_code 90 = .ok (.iconst 3, 1) := by decide +kernel
theorem d_md_init_91 : decode prog_7_method_1_code 91 = .ok (.newarray .int, 2) := by decide +kernel
theorem d_md_init_93 : decode prog_7_method_1_code 93 = .ok (.putfield 45, 3) := by decide +kernel
theorem d_md_init_96 : decode prog_7_method_1_code 96 = .ok (.aload_n 0, 1) := by decide +kernel
theorem d_md_init_97 : decode prog_7_method_1_code 97 = .ok (.bipush 64, 2) := by decide +kernel
theorem d_md_init_99 : decode prog_7_method_1_code 99 = .ok (.newarray .int, 2) := by decide +kernel
theorem d_md_init_101 : decode prog_7_method_1_code 101 = .ok (.putfield 48, 3) := by decide +kernel
theorem d_md_init_104 : decode prog_7_method_1_code 104 = .ok (.aload_n 0, 1) := by decide +kernel
theorem d_md_init_105 : decode prog_7_method_1_code 105 = .ok (.sipush 384, 3) := by decide +kernel
theorem d_md_init_108 : decode prog_7_method_1_code 108 = .ok (.newarray .int, 2) := by decide +kernel
theorem d_md_init_110 : decode prog_7_method_1_code 110 = .ok (.putfield 51, 3) := by decide +kernel
theorem d_md_init_113 : decode prog_7_method_1_code 113 = .ok (.aload_n 0, 1) := by decide +kernel
theorem d_md_init_114 : decode prog_7_method_1_code 114 = .ok (.sipush 384, 3) := by decide +kernel
theorem d_md_init_117 : decode prog_7_method_1_code 117 = .ok (.newarray .int, 2) := by decide +kernel
theorem d_md_init_119 : decode prog_7_method_1_code 119 = .ok (.putfield 54, 3) := by decide +kernel
theorem d_md_init_122 : decode prog_7_method_1_code 122 = .ok (.aload_n 0, 1) := by decide +kernel
theorem d_md_init_123 : decode prog_7_method_1_code 123 = .ok (.bipush 7, 2) := by decide +kernel
theorem d_md_init_125 : decode prog_7_method_1_code 125 = .ok (.newarray .int, 2) := by decide +kernel
theorem d_md_init_127 : decode prog_7_method_1_code 127 = .ok (.putfield 57, 3) := by decide +kernel
theorem d_md_init_130 : decode prog_7_method_1_code 130 = .ok (.aload_n 0, 1) := by decide +kernel
theorem d_md_init_131 : decode prog_7_method_1_code 131 = .ok (.bipush 7, 2) := by decide +kernel
theorem d_md_init_133 : decode prog_7_method_1_code 133 = .ok (.newarray .int, 2) := by decide +kernel
theorem d_md_init_135 : decode prog_7_method_1_code 135 = .ok (.putfield 60, 3) := by decide +kernel
theorem d_md_init_138 : decode prog_7_method_1_code 138 = .ok (.aload_n 0, 1) := by decide +kernel
theorem d_md_init_139 : decode prog_7_method_1_code 139 = .ok (.bipush 7, 2) := by decide +kernel
theorem d_md_init_141 : decode prog_7_method_1_code 141 = .ok (.newarray .int, 2) := by decide +kernel
theorem d_md_init_143 : decode prog_7_method_1_code 143 = .ok (.putfield 63, 3) := by decide +kernel
theorem d_md_init_146 : decode prog_7_method_1_code 146 = .ok (.aload_n 0, 1) := by decide +kernel
theorem d_md_init_147 : decode prog_7_method_1_code 147 = .ok (.iconst 3, 1) := by decide +kernel
theorem d_md_init_148 : decode prog_7_method_1_code 148 = .ok (.newarray .int, 2) := by decide +kernel
theorem d_md_init_150 : decode prog_7_method_1_code 150 = .ok (.putfield 66, 3) := by decide +kernel
theorem d_md_init_153 : decode prog_7_method_1_code 153 = .ok (.aload_n 0, 1) := by decide +kernel
theorem d_md_init_154 : decode prog_7_method_1_code 154 = .ok (.iconst 3, 1) := by decide +kernel
theorem d_md_init_155 : decode prog_7_method_1_code 155 = .ok (.newarray .int, 2) := by decide +kernel
theorem d_md_init_157 : decode prog_7_method_1_code 157 = .ok (.putfield 69, 3) := by decide +kernel
theorem d_md_init_160 : decode prog_7_method_1_code 160 = .ok (.aload_n 0, 1) := by decide +kernel
theorem d_md_init_161 : decode prog_7_method_1_code 161 = .ok (.iconst 3, 1) := by decide +kernel
theorem d_md_init_162 : decode prog_7_method_1_code 162 = .ok (.newarray .int, 2) := by decide +kernel
theorem d_md_init_164 : decode prog_7_method_1_code 164 = .ok (.putfield 72, 3) := by decide +kernel
theorem d_md_init_167 : decode prog_7_method_1_code 167 = .ok (.aload_n 0, 1) := by decide +kernel
theorem d_md_init_168 : decode prog_7_method_1_code 168 = .ok (.iconst 3, 1) := by decide +kernel
theorem d_md_init_169 : decode prog_7_method_1_code 169 = .ok (.newarray .long, 2) := by decide +kernel
theorem d_md_init_171 : decode prog_7_method_1_code 171 = .ok (.putfield 75, 3) := by decide +kernel
theorem d_md_init_174 : decode prog_7_method_1_code 174 = .ok (.iconst 0, 1) := by decide +kernel
theorem d_md_init_175 : decode prog_7_method_1_code 175 = .ok (.istore_n 1, 1) := by decide +kernel
theorem d_md_init_176 : decode prog_7_method_1_code 176 = .ok (.iload_n 1, 1) := by decide +kernel
theorem d_md_init_177 : decode prog_7_method_1_code 177 = .ok (.bipush 64, 2) := by decide +kernel
theorem d_md_init_179 : decode prog_7_method_1_code 179 = .ok (.if_icmp .ge 17, 3) := by decide +kernel
theorem d_md_init_182 : decode prog_7_method_1_code 182 = .ok (.aload_n 0, 1) := by decide +kernel
theorem d_md_init_183 : decode prog_7_method_1_code 183 = .ok (.getfield 48, 3) := by decide +kernel
theorem d_md_init_186 : decode prog_7_method_1_code 186 = .ok (.iload_n 1, 1) := by decide +kernel
theorem d_md_init_187 : decode prog_7_method_1_code 187 = .ok (.bipush 100, 2) := by decide +kernel
theorem d_md_init_189 : decode prog_7_method_1_code 189 = .ok (.iastore, 1) := by decide +kernel
theorem d_md_init_190 : decode prog_7_method_1_code 190 = .ok (.iinc 1 1, 3) := by decide +kernel
theorem d_md_init_193 : decode prog_7_method_1_code 193 = .ok (.goto (-17), 3) := by decide +kernel
theorem d_md_init_196 : decode prog_7_method_1_code 196 = .ok (.return_, 1) := by decide +kernel
theorem d_md_isIn_0 : decode prog_7_method_3_code 0 = .ok (.lload_n 0, 1) := by decide +kernel
theorem d_md_isIn_1 : decode prog_7_method_3_code 1 = .ok (.lload_n 2, 1) := by decide +kernel
theorem d_md_isIn_2 : decode prog_7_method_3_code 2 = .ok (.lcmp, 1) := by decide +kernel
theorem d_md_isIn_3 : decode prog_7_method_3_code 3 = .ok (.ifCond .lt 14, 3) := by decide +kernel
theorem d_md_isIn_6 : decode prog_7_method_3_code 6 = .ok (.lload_n 0, 1) := by decide +kernel
theorem d_md_isIn_7 : decode prog_7_method_3_code 7 = .ok (.lload 4, 2) := by decide +kernel
theorem d_md_isIn_9 : decode prog_7_method_3_code 9 = .ok (.lcmp, 1) := by decide +kernel
theorem d_md_isIn_10 : decode prog_7_method_3_code 10 = .ok (.ifCond .gt 7, 3) := by decide +kernel
theorem d_md_isIn_13 : decode prog_7_method_3_code 13 = .ok (.iconst 1, 1) := by decide +kernel
theorem d_md_isIn_14 : decode prog_7_method_3_code 14 = .ok (.goto 4, 3) := by decide +kernel
theorem d_md_isIn_17 : decode prog_7_method_3_code 17 = .ok (.iconst 0, 1) := by decide +kernel
theorem d_md_isIn_18 : decode prog_7_method_3_code 18 = .ok (.ireturn, 1) := by decide +kernel
theorem d_md_isStop_0 : decode prog_7_method_4_code 0 = .ok (.iload_n 1, 1) := by decide +kernel
theorem d_md_isStop_1 : decode prog_7_method_4_code 1 = .ok (.ifCond .lt 15, 3) := by decide +kernel
theorem d_md_isStop_4 : decode prog_7_method_4_code 4 = .ok (.iload_n 1, 1) := by decide +kernel
theorem d_md_isStop_5 : decode prog_7_method_4_code 5 = .ok (.aload_n 0, 1) := by decide +kernel
theorem d_md_isStop_6 : decode prog_7_method_4_code 6 = .ok (.getfield 78, 3) := by decide +kernel
theorem d_md_isStop_9 : decode prog_7_method_4_code 9 = .ok (.if_icmp .ge 7, 3) := by decide +kernel
theorem d_md_isStop_12 : decode prog_7_method_4_code 12 = .ok (.iconst 1, 1) := by decide +kernel
theorem d_md_isStop_13 : decode prog_7_method_4_code 13 = .ok (.goto 4, 3) := by decide +kernel
theorem d_md_isStop_16 : decode prog_7_method_4_code 16 = .ok (.iconst 0, 1) := by decide +kernel
theorem d_md_isStop_17 : decode prog_7_method_4_code 17 = .ok (.ireturn, 1) := by decide +kernel
theorem d_md_arePair_0 : decode prog_7_method_5_code 0 = .ok (.aload_n 0, 1) := by decide +kernel
theorem d_md_arePair_1 : decode prog_7_method_5_code 1 = .ok (.iload_n 1, 1) := by decide +kernel
theorem d_md_arePair_2 : decode prog_7_method_5_code 2 = .ok (.invokevirtual 82, 3) := by decide +kernel
theorem d_md_arePair_5 : decode prog_7_method_5_code 5 = .ok (.ifCond .eq 20, 3) := by decide +kernel
theorem d_md_arePair_8 : decode prog_7_method_5_code 8 = .ok (.aload_n 0, 1) := by decide +kernel
theorem d_md_arePair_9 : decode prog_7_method_5_code 9 = .ok (.iload_n 2, 1) := by decide +kernel
theorem d_md_arePair_10 : decode prog_7_method_5_code 10 = .ok (.invokevirtual 82, 3) := by decide +kernel
theorem d_md_arePair_13 : decode prog_7_method_5_code 13 = .ok (.ifCond .eq 12, 3) := by decide +kernel
theorem d_md_arePair_16 : decode prog_7_method_5_code 16 = .ok (.iload_n 1, 1) := by decide +kernel
theorem d_md_arePair_17 : decode prog_7_method_5_code 17 = .ok (.iload_n 2, 1) := by decide +kernel
theorem d_md_arePair_18 : decode prog_7_method_5_code 18 = .ok (.if_icmp .eq 7, 3) := by decide +kernel
theorem d_md_arePair_21 : decode prog_7_method_5_code 21 = .ok (.iconst 1, 1) := by decide +kernel
theorem d_md_arePair_22 : decode prog_7_method_5_code 22 = .ok (.goto 4, 3) := by decide +kernel
theorem d_md_arePair_25 : decode prog_7_method_5_code 25 = .ok (.iconst 0, 1) := by decide +kernel
theorem d_md_arePair_26 : decode prog_7_method_5_code 26 = .ok (.ireturn, 1) := by decide +kernel
theorem d_md_stop_0 : decode prog_7_method_6_code 0 = .ok (.aload_n 0, 1) := by decide +kernel
theorem d_md_stop_1 : decode prog_7_method_6_code 1 = .ok (.getfield 78, 3) := by decide +kernel
theorem d_md_stop_4 : decode prog_7_method_6_code 4 = .ok (.bipush 7, 2) := by decide +kernel
theorem d_md_stop_6 : decode prog_7_method_6_code 6 = .ok (.if_icmp .eq 15, 3) := by decide +kernel
theorem d_md_stop_9 : decode prog_7_method_6_code 9 = .ok (.iload_n 1, 1) := by decide +kernel
theorem d_md_stop_10 : decode prog_7_method_6_code 10 = .ok (.i2l, 1) := by decide +kernel
theorem d_md_stop_11 : decode prog_7_method_6_code 11 = .ok (.lconst 0, 1) := by decide +kernel
theorem d_md_stop_12 : decode prog_7_method_6_code 12 = .ok (.ldc2_w 86, 3) := by decide +kernel
theorem d_md_stop_15 : decode prog_7_method_6_code 15 = .ok (.invokestatic 88, 3) := by decide +kernel
theorem d_md_stop_18 : decode prog_7_method_6_code 18 = .ok (.ifCond .ne 5, 3) := by decide +kernel
theorem d_md_stop_21 : decode prog_7_method_6_code 21 = .ok (.iconst (-1), 1) := by decide +kernel
theorem d_md_stop_22 : decode prog_7_method_6_code 22 = .ok (.ireturn, 1) := by decide +kernel
theorem d_md_stop_23 : decode prog_7_method_6_code 23 = .ok (.aload_n 0, 1) := by decide +kernel
theorem d_md_stop_24 : decode prog_7_method_6_code 24 = .ok (.getfield 7, 3) := by decide +kernel
theorem d_md_stop_27 : decode prog_7_method_6_code 27 = .ok (.aload_n 0, 1) := by decide +kernel
theorem d_md_stop_28 : decode prog_7_method_6_code 28 = .ok (.getfield 78, 3) := by decide +kernel
theorem d_md_stop_31 : decode prog_7_method_6_code 31 = .ok (.iload_n 1, 1) := by decide +kernel
theorem d_md_stop_32 : decode prog_7_method_6_code 32 = .ok (.iastore, 1) := by decide +kernel
theorem d_md_stop_33 : decode prog_7_method_6_code 33 = .ok (.aload_n 0, 1) := by decide +kernel
theorem d_md_stop_34 : decode prog_7_method_6_code 34 = .ok (.getfield 16, 3) := by decide +kernel
theorem d_md_stop_37 : decode prog_7_method_6_code 37 = .ok (.aload_n 0, 1) := by decide +kernel
theorem d_md_stop_38 : decode prog_7_method_6_code 38 = .ok (.getfield 78, 3) := by decide +kernel
theorem d_md_stop_41 : decode prog_7_method_6_code 41 = .ok (.ldc 92, 2) := by decide +kernel
theorem d_md_stop_43 : decode prog_7_method_6_code 43 = .ok (.iastore, 1) := by decide +kernel
theorem d_md_stop_44 : decode prog_7_method_6_code 44 = .ok (.aload_n 0, 1) := by decide +kernel
theorem d_md_stop_45 : decode prog_7_method_6_code 45 = .ok (.getfield 26, 3) := by decide +kernel
theorem d_md_stop_48 : decode prog_7_method_6_code 48 = .ok (.aload_n 0, 1) := by decide +kernel
theorem d_md_stop_49 : decode prog_7_method_6_code 49 = .ok (.getfield 78, 3) := by decide +kernel
theorem d_md_stop_52 : decode prog_7_method_6_code 52 = .ok (.iconst (-1), 1) := by decide +kernel
theorem d_md_stop_53 : decode prog_7_method_6_code 53 = .ok (.iastore, 1) := by decide +kernel
theorem d_md_stop_54 : decode prog_7_method_6_code 54 = .ok (.aload_n 0, 1) := by decide +kernel
theorem d_md_stop_55 : decode prog_7_method_6_code 55 = .ok (.dup, 1) := by decide +kernel
theorem d_md_stop_56 : decode prog_7_method_6_code 56 = .ok (.getfield 78, 3) := by decide +kernel
theorem d_md_stop_59 : decode prog_7_method_6_code 59 = .ok (.iconst 1, 1) := by decide +kernel
theorem d_md_stop_60 : decode prog_7_method_6_code 60 = .ok (.iadd, 1) := by decide +kernel
theorem d_md_stop_61 : decode prog_7_method_6_code 61 = .ok (.putfield 78, 3) := by decide +kernel
theorem d_md_stop_64 : decode prog_7_method_6_code 64 = .ok (.aload_n 0, 1) := by decide +kernel
theorem d_md_stop_65 : decode prog_7_method_6_code 65 = .ok (.getfield 78, 3) := by decide +kernel
theorem d_md_stop_68 : decode prog_7_method_6_code 68 = .ok (.iconst 1, 1) := by decide +kernel
theorem d_md_stop_69 : decode prog_7_method_6_code 69 = .ok (.isub, 1) := by decide +kernel
theorem d_md_stop_70 : decode prog_7_method_6_code 70 = .ok (.ireturn, 1) := by decide +kernel
theorem d_md_hours_0 : decode prog_7_method_7_code 0 = .ok (.aload_n 0, 1) := by decide +kernel
theorem d_md_hours_1 : decode prog_7_method_7_code 1 = .ok (.iload_n 1, 1) := by decide +kernel
theorem d_md_hours_2 : decode prog_7_method_7_code 2 = .ok (.invokevirtual 82, 3) := by decide +kernel
theorem d_md_hours_5 : decode prog_7_method_7_code 5 = .ok (.ifCond .eq 41, 3) := by decide +kernel
theorem d_md_hours_8 : decode prog_7_method_7_code 8 = .ok (.iload_n 2, 1) := by decide +kernel
theorem d_md_hours_9 : decode prog_7_method_7_code 9 = .ok (.i2l, 1) := by decide +kernel
theorem d_md_hours_10 : decode prog_7_method_7_code 10 = .ok (.lconst 0, 1) := by decide +kernel
theorem d_md_hours_11 : decode prog_7_method_7_code 11 = .ok (.ldc2_w 93, 3) := by decide +kernel
theorem d_md_hours_14 : decode prog_7_method_7_code 14 = .ok (.invokestatic 88, 3) := by decide +kernel
theorem d_md_hours_17 : decode prog_7_method_7_code 17 = .ok (.ifCond .eq 29, 3) := by decide +kernel
theorem d_md_hours_20 : decode prog_7_method_7_code 20 = .ok (.iload_n 3, 1) := by decide +kernel
theorem d_md_hours_21 : decode prog_7_method_7_code 21 = .ok (.i2l, 1) := by decide +kernel
theorem d_md_hours_22 : decode prog_7_method_7_code 22 = .ok (.iload_n 2, 1) := by decide +kernel
theorem d_md_hours_23 : decode prog_7_method_7_code 23 = .ok (.i2l, 1) := by decide +kernel
theorem d_md_hours_24 : decode prog_7_method_7_code 24 = .ok (.ldc2_w 93, 3) := by decide +kernel
theorem d_md_hours_27 : decode prog_7_method_7_code 27 = .ok (.invokestatic 88, 3) := by decide +kernel
theorem d_md_hours_30 : decode prog_7_method_7_code 30 = .ok (.ifCond .eq 16, 3) := by decide +kernel
theorem d_md_hours_33 : decode prog_7_method_7_code 33 = .ok (.iload 4, 2) := by decide +kernel
theorem d_md_hours_35 : decode prog_7_method_7_code 35 = .ok (.i2l, 1) := by decide +kernel
theorem d_md_hours_36 : decode prog_7_method_7_code 36 = .ok (.lconst 0, 1) := by decide +kernel
theorem d_md_hours_37 : decode prog_7_method_7_code 37 = .ok (.ldc2_w 95, 3) := by decide +kernel
theorem d_md_hours_40 : decode prog_7_method_7_code 40 = .ok (.invokestatic 88, 3) := by decide +kernel
theorem d_md_hours_43 : decode prog_7_method_7_code 43 = .ok (.ifCond .ne 5, 3) := by decide +kernel
theorem d_md_hours_46 : decode prog_7_method_7_code 46 = .ok (.iconst 0, 1) := by decide +kernel
theorem d_md_hours_47 : decode prog_7_method_7_code 47 = .ok (.ireturn, 1) := by decide +kernel
theorem d_md_hours_48 : decode prog_7_method_7_code 48 = .ok (.aload_n 0, 1) := by decide +kernel
theorem d_md_hours_49 : decode prog_7_method_7_code 49 = .ok (.getfield 13, 3) := by decide +kernel
theorem d_md_hours_52 : decode prog_7_method_7_code 52 = .ok (.iload_n 1, 1) := by decide +kernel
theorem d_md_hours_53 : decode prog_7_method_7_code 53 = .ok (.iload_n 2, 1) := by decide +kernel
theorem d_md_hours_54 : decode prog_7_method_7_code 54 = .ok (.iastore, 1) := by decide +kernel
theorem d_md_hours_55 : decode prog_7_method_7_code 55 = .ok (.aload_n 0, 1) := by decide +kernel
theorem d_md_hours_56 : decode prog_7_method_7_code 56 = .ok (.getfield 16, 3) := by decide +kernel
theorem d_md_hours_59 : decode prog_7_method_7_code 59 = .ok (.iload_n 1, 1) := by decide +kernel
theorem d_md_hours_60 : decode prog_7_method_7_code 60 = .ok (.iload_n 3, 1) := by decide +kernel
theorem d_md_hours_61 : decode prog_7_method_7_code 61 = .ok (.iastore, 1) := by decide +kernel
theorem d_md_hours_62 : decode prog_7_method_7_code 62 = .ok (.aload_n 0, 1) := by decide +kernel
theorem d_md_hours_63 : decode prog_7_method_7_code 63 = .ok (.getfield 19, 3) := by decide +kernel
theorem d_md_hours_66 : decode prog_7_method_7_code 66 = .ok (.iload_n 1, 1) := by decide +kernel
theorem d_md_hours_67 : decode prog_7_method_7_code 67 = .ok (.iload 4, 2) := by decide +kernel
theorem d_md_hours_69 : decode prog_7_method_7_code 69 = .ok (.iastore, 1) := by decide +kernel
theorem d_md_hours_70 : decode prog_7_method_7_code 70 = .ok (.iconst 1, 1) := by decide +kernel
theorem d_md_hours_71 : decode prog_7_method_7_code 71 = .ok (.ireturn, 1) := by decide +kernel
theorem d_md_penalty_0 : decode prog_7_method_8_code 0 = .ok (.aload_n 0, 1) := by decide +kernel
theorem d_md_penalty_1 : decode prog_7_method_8_code 1 = .ok (.iload_n 1, 1) := by decide +kernel
theorem d_md_penalty_2 : decode prog_7_method_8_code 2 = .ok (.invokevirtual 82, 3) := by decide +kernel
theorem d_md_penalty_5 : decode prog_7_method_8_code 5 = .ok (.ifCond .eq 14, 3) := by decide +kernel
theorem d_md_penalty_8 : decode prog_7_method_8_code 8 = .ok (.lload_n 2, 1) := by decide +kernel
theorem d_md_penalty_9 : decode prog_7_method_8_code 9 = .ok (.lconst 0, 1) := by decide +kernel
theorem d_md_penalty_10 : decode prog_7_method_8_code 10 = .ok (.ldc2_w 97, 3) := by decide +kernel
theorem d_md_penalty_13 : decode prog_7_method_8_code 13 = .ok (.invokestatic 88, 3) := by decide +kernel
theorem d_md_penalty_16 : decode prog_7_method_8_code 16 = .ok (.ifCond .ne 5, 3) := by decide +kernel
theorem d_md_penalty_19 : decode prog_7_method_8_code 19 = .ok (.iconst 0, 1) := by decide +kernel
theorem d_md_penalty_20 : decode prog_7_method_8_code 20 = .ok (.ireturn, 1) := by decide +kernel
theorem d_md_penalty_21 : decode prog_7_method_8_code 21 = .ok (.aload_n 0, 1) := by decide +kernel
theorem d_md_penalty_22 : decode prog_7_method_8_code 22 = .ok (.getfield 22, 3) := by decide +kernel
theorem d_md_penalty_25 : decode prog_7_method_8_code 25 = .ok (.iload_n 1, 1) := by decide +kernel
theorem d_md_penalty_26 : decode prog_7_method_8_code 26 = .ok (.lload_n 2, 1) := by decide +kernel
theorem d_md_penalty_27 : decode prog_7_method_8_code 27 = .ok (.lastore, 1) := by decide +kernel
theorem d_md_penalty_28 : decode prog_7_method_8_code 28 = .ok (.iconst 1, 1) := by decide +kernel
theorem d_md_penalty_29 : decode prog_7_method_8_code 29 = .ok (.ireturn, 1) := by decide +kernel
theorem d_md_vehicle_0 : decode prog_7_method_9_code 0 = .ok (.aload_n 0, 1) := by decide +kernel
theorem d_md_vehicle_1 : decode prog_7_method_9_code 1 = .ok (.getfield 99, 3) := by decide +kernel
theorem d_md_vehicle_4 : decode prog_7_method_9_code 4 = .ok (.iconst 3, 1) := by decide +kernel
theorem d_md_vehicle_5 : decode prog_7_method_9_code 5 = .ok (.if_icmp .eq 53, 3) := by decide +kernel
theorem d_md_vehicle_8 : decode prog_7_method_9_code 8 = .ok (.iload_n 1, 1) := by decide +kernel
theorem d_md_vehicle_9 : decode prog_7_method_9_code 9 = .ok (.i2l, 1) := by decide +kernel
theorem d_md_vehicle_10 : decode prog_7_method_9_code 10 = .ok (.lconst 0, 1) := by decide +kernel
theorem d_md_vehicle_11 : decode prog_7_method_9_code 11 = .ok (.ldc2_w 102, 3) := by decide +kernel
theorem d_md_vehicle_14 : decode prog_7_method_9_code 14 = .ok (.invokestatic 88, 3) := by decide +kernel
theorem d_md_vehicle_17 : decode prog_7_method_9_code 17 = .ok (.ifCond .eq 41, 3) := by decide +kernel
theorem d_md_vehicle_20 : decode prog_7_method_9_code 20 = .ok (.iload_n 2, 1) := by decide +kernel
theorem d_md_vehicle_21 : decode prog_7_method_9_code 21 = .ok (.i2l, 1) := by decide +kernel
theorem d_md_vehicle_22 : decode prog_7_method_9_code 22 = .ok (.lconst 0, 1) := by decide +kernel
theorem d_md_vehicle_23 : decode prog_7_method_9_code 23 = .ok (.ldc2_w 93, 3) := by decide +kernel
theorem d_md_vehicle_26 : decode prog_7_method_9_code 26 = .ok (.invokestatic 88, 3) := by decide +kernel
theorem d_md_vehicle_29 : decode prog_7_method_9_code 29 = .ok (.ifCond .eq 29, 3) := by decide +kernel
theorem d_md_vehicle_32 : decode prog_7_method_9_code 32 = .ok (.iload_n 3, 1) := by decide +kernel
theorem d_md_vehicle_33 : decode prog_7_method_9_code 33 = .ok (.i2l, 1) := by decide +kernel
theorem d_md_vehicle_34 : decode prog_7_method_9_code 34 = .ok (.iload_n 2, 1) := by decide +kernel
theorem d_md_vehicle_35 : decode prog_7_method_9_code 35 = .ok (.i2l, 1) := by decide +kernel
theorem d_md_vehicle_36 : decode prog_7_method_9_code 36 = .ok (.ldc2_w 93, 3) := by decide +kernel
theorem d_md_vehicle_39 : decode prog_7_method_9_code 39 = .ok (.invokestatic 88, 3) := by decide +kernel
theorem d_md_vehicle_42 : decode prog_7_method_9_code 42 = .ok (.ifCond .eq 16, 3) := by decide +kernel
theorem d_md_vehicle_45 : decode prog_7_method_9_code 45 = .ok (.iload 4, 2) := by decide +kernel
theorem d_md_vehicle_47 : decode prog_7_method_9_code 47 = .ok (.i2l, 1) := by decide +kernel
theorem d_md_vehicle_48 : decode prog_7_method_9_code 48 = .ok (.lconst 0, 1) := by decide +kernel
theorem d_md_vehicle_49 : decode prog_7_method_9_code 49 = .ok (.ldc2_w 104, 3) := by decide +kernel
theorem d_md_vehicle_52 : decode prog_7_method_9_code 52 = .ok (.invokestatic 88, 3) := by decide +kernel
theorem d_md_vehicle_55 : decode prog_7_method_9_code 55 = .ok (.ifCond .ne 5, 3) := by decide +kernel
theorem d_md_vehicle_58 : decode prog_7_method_9_code 58 = .ok (.iconst (-1), 1) := by decide +kernel
theorem d_md_vehicle_59 : decode prog_7_method_9_code 59 = .ok (.ireturn, 1) := by decide +kernel
theorem d_md_vehicle_60 : decode prog_7_method_9_code 60 = .ok (.aload_n 0, 1) := by decide +kernel
theorem d_md_vehicle_61 : decode prog_7_method_9_code 61 = .ok (.getfield 36, 3) := by decide +kernel
theorem d_md_vehicle_64 : decode prog_7_method_9_code 64 = .ok (.aload_n 0, 1) := by decide +kernel
theorem d_md_vehicle_65 : decode prog_7_method_9_code 65 = .ok (.getfield 99, 3) := by decide +kernel
theorem d_md_vehicle_68 : decode prog_7_method_9_code 68 = .ok (.iload_n 1, 1) := by decide +kernel
theorem d_md_vehicle_69 : decode prog_7_method_9_code 69 = .ok (.iastore, 1) := by decide +kernel
theorem d_md_vehicle_70 : decode prog_7_method_9_code 70 = .ok (.aload_n 0, 1) := by decide +kernel
theorem d_md_vehicle_71 : decode prog_7_method_9_code 71 = .ok (.getfield 39, 3) := by decide +kernel
theorem d_md_vehicle_74 : decode prog_7_method_9_code 74 = .ok (.aload_n 0, 1) := by decide +kernel
theorem d_md_vehicle_75 : decode prog_7_method_9_code 75 = .ok (.getfield 99, 3) := by decide +kernel
theorem d_md_vehicle_78 : decode prog_7_method_9_code 78 = .ok (.iload_n 2, 1) := by decide +kernel
theorem d_md_vehicle_79 : decode prog_7_method_9_code 79 = .ok (.iastore, 1) := by decide +kernel
theorem d_md_vehicle_80 : decode prog_7_method_9_code 80 = .ok (.aload_n 0, 1) := by decide +kernel
theorem d_md_vehicle_81 : decode prog_7_method_9_code 81 = .ok (.getfield 42, 3) := by decide +kernel
theorem d_md_vehicle_84 : decode prog_7_method_9_code 84 = .ok (.aload_n 0, 1) := by decide +kernel
theorem d_md_vehicle_85 : decode prog_7_method_9_code 85 = .ok (.getfield 99, 3) := by decide +kernel
theorem d_md_vehicle_88 : decode prog_7_method_9_code 88 = .ok (.iload_n 3, 1) := by decide +kernel
theorem d_md_vehicle_89 : decode prog_7_method_9_code 89 = .ok (.iastore, 1) := by decide +kernel
theorem d_md_vehicle_90 : decode prog_7_method_9_code 90 = .ok (.aload_n 0, 1) := by decide +kernel
theorem d_md_vehicle_91 : decode prog_7_method_9_code 91 = .ok (.getfield 45, 3) := by decide +kernel
theorem d_md_vehicle_94 : decode prog_7_method_9_code 94 = .ok (.aload_n 0, 1) := by decide +kernel
theorem d_md_vehicle_95 : decode prog_7_method_9_code 95 = .ok (.getfield 99, 3) := by decide +kernel
theorem d_md_vehicle_98 : decode prog_7_method_9_code 98 = .ok (.iload 4, 2) := by decide +kernel
theorem d_md_vehicle_100 : decode prog_7_method_9_code 100 = .ok (.iastore, 1) := by decide +kernel
theorem d_md_vehicle_101 : decode prog_7_method_9_code 101 = .ok (.aload_n 0, 1) := by decide +kernel
theorem d_md_vehicle_102 : decode prog_7_method_9_code 102 = .ok (.dup, 1) := by decide +kernel
theorem d_md_vehicle_103 : decode prog_7_method_9_code 103 = .ok (.getfield 99, 3) := by decide +kernel
theorem d_md_vehicle_106 : decode prog_7_method_9_code 106 = .ok (.iconst 1, 1) := by decide +kernel
theorem d_md_vehicle_107 : decode prog_7_method_9_code 107 = .ok (.iadd, 1) := by decide +kernel
theorem d_md_vehicle_108 : decode prog_7_method_9_code 108 = .ok (.putfield 99, 3) := by decide +kernel
theorem d_md_vehicle_111 : decode prog_7_method_9_code 111 = .ok (.aload_n 0, 1) := by decide +kernel
theorem d_md_vehicle_112 : decode prog_7_method_9_code 112 = .ok (.getfield 99, 3) := by decide +kernel
theorem d_md_vehicle_115 : decode prog_7_method_9_code 115 = .ok (.iconst 1, 1) := by decide +kernel
theorem d_md_vehicle_116 : decode prog_7_method_9_code 116 = .ok (.isub, 1) := by decide +kernel
theorem d_md_vehicle_117 : decode prog_7_method_9_code 117 = .ok (.ireturn, 1) := by decide +kernel
theorem d_md_way_0 : decode prog_7_method_10_code 0 = .ok (.iload_n 1, 1) := by decide +kernel
theorem d_md_way_1 : decode prog_7_method_10_code 1 = .ok (.i2l, 1) := by decide +kernel
theorem d_md_way_2 : decode prog_7_method_10_code 2 = .ok (.lconst 0, 1) := by decide +kernel
theorem d_md_way_3 : decode prog_7_method_10_code 3 = .ok (.ldc2_w 106, 3) := by decide +kernel
theorem d_md_way_6 : decode prog_7_method_10_code 6 = .ok (.invokestatic 88, 3) := by decide +kernel
theorem d_md_way_9 : decode prog_7_method_10_code 9 = .ok (.ifCond .eq 32, 3) := by decide +kernel
theorem d_md_way_12 : decode prog_7_method_10_code 12 = .ok (.iload_n 2, 1) := by decide +kernel
theorem d_md_way_13 : decode prog_7_method_10_code 13 = .ok (.i2l, 1) := by decide +kernel
theorem d_md_way_14 : decode prog_7_method_10_code 14 = .ok (.lconst 0, 1) := by decide +kernel
theorem d_md_way_15 : decode prog_7_method_10_code 15 = .ok (.ldc2_w 106, 3) := by decide +kernel
theorem d_md_way_18 : decode prog_7_method_10_code 18 = .ok (.invokestatic 88, 3) := by decide +kernel
theorem d_md_way_21 : decode prog_7_method_10_code 21 = .ok (.ifCond .eq 20, 3) := by decide +kernel
theorem d_md_way_24 : decode prog_7_method_10_code 24 = .ok (.iload_n 1, 1) := by decide +kernel
theorem d_md_way_25 : decode prog_7_method_10_code 25 = .ok (.iload_n 2, 1) := by decide +kernel
theorem d_md_way_26 : decode prog_7_method_10_code 26 = .ok (.if_icmp .eq 15, 3) := by decide +kernel
theorem d_md_way_29 : decode prog_7_method_10_code 29 = .ok (.iload_n 3, 1) := by decide +kernel
theorem d_md_way_30 : decode prog_7_method_10_code 30 = .ok (.i2l, 1) := by decide +kernel
theorem d_md_way_31 : decode prog_7_method_10_code 31 = .ok (.lconst 0, 1) := by decide +kernel
theorem d_md_way_32 : decode prog_7_method_10_code 32 = .ok (.ldc2_w 108, 3) := by decide +kernel
theorem d_md_way_35 : decode prog_7_method_10_code 35 = .ok (.invokestatic 88, 3) := by decide +kernel
theorem d_md_way_38 : decode prog_7_method_10_code 38 = .ok (.ifCond .ne 5, 3) := by decide +kernel
theorem d_md_way_41 : decode prog_7_method_10_code 41 = .ok (.iconst 0, 1) := by decide +kernel
theorem d_md_way_42 : decode prog_7_method_10_code 42 = .ok (.ireturn, 1) := by decide +kernel
theorem d_md_way_43 : decode prog_7_method_10_code 43 = .ok (.aload_n 0, 1) := by decide +kernel
theorem d_md_way_44 : decode prog_7_method_10_code 44 = .ok (.getfield 48, 3) := by decide +kernel
theorem d_md_way_47 : decode prog_7_method_10_code 47 = .ok (.bipush 8, 2) := by decide +kernel
theorem d_md_way_49 : decode prog_7_method_10_code 49 = .ok (.iload_n 1, 1) := by decide +kernel
theorem d_md_way_50 : decode prog_7_method_10_code 50 = .ok (.imul, 1) := by decide +kernel
theorem d_md_way_51 : decode prog_7_method_10_code 51 = .ok (.iload_n 2, 1) := by decide +kernel
theorem d_md_way_52 : decode prog_7_method_10_code 52 = .ok (.iadd, 1) := by decide +kernel
theorem d_md_way_53 : decode prog_7_method_10_code 53 = .ok (.iload_n 3, 1) := by decide +kernel
theorem d_md_way_54 : decode prog_7_method_10_code 54 = .ok (.iastore, 1) := by decide +kernel
theorem d_md_way_55 : decode prog_7_method_10_code 55 = .ok (.iconst 1, 1) := by decide +kernel
theorem d_md_way_56 : decode prog_7_method_10_code 56 = .ok (.ireturn, 1) := by decide +kernel
theorem d_md_fixed_0 : decode prog_7_method_11_code 0 = .ok (.aload_n 0, 1) := by decide +kernel
theorem d_md_fixed_1 : decode prog_7_method_11_code 1 = .ok (.iload_n 1, 1) := by decide +kernel
theorem d_md_fixed_2 : decode prog_7_method_11_code 2 = .ok (.invokevirtual 82, 3) := by decide +kernel
theorem d_md_fixed_5 : decode prog_7_method_11_code 5 = .ok (.ifCond .eq 16, 3) := by decide +kernel
theorem d_md_fixed_8 : decode prog_7_method_11_code 8 = .ok (.iload_n 2, 1) := by decide +kernel
theorem d_md_fixed_9 : decode prog_7_method_11_code 9 = .ok (.iconst (-1), 1) := by decide +kernel
theorem d_md_fixed_10 : decode prog_7_method_11_code 10 = .ok (.if_icmp .lt 11, 3) := by decide +kernel
theorem d_md_fixed_13 : decode prog_7_method_11_code 13 = .ok (.iload_n 2, 1) := by decide +kernel
theorem d_md_fixed_14 : decode prog_7_method_11_code 14 = .ok (.aload_n 0, 1) := by decide +kernel
theorem d_md_fixed_15 : decode prog_7_method_11_code 15 = .ok (.getfield 99, 3) := by decide +kernel
theorem d_md_fixed_18 : decode prog_7_method_11_code 18 = .ok (.if_icmp .lt 5, 3) := by decide +kernel
theorem d_md_fixed_21 : decode prog_7_method_11_code 21 = .ok (.iconst 0, 1) := by decide +kernel
theorem d_md_fixed_22 : decode prog_7_method_11_code 22 = .ok (.ireturn, 1) := by decide +kernel
theorem d_md_fixed_23 : decode prog_7_method_11_code 23 = .ok (.aload_n 0, 1) := by decide +kernel
theorem d_md_fixed_24 : decode prog_7_method_11_code 24 = .ok (.getfield 26, 3) := by decide +kernel
theorem d_md_fixed_27 : decode prog_7_method_11_code 27 = .ok (.iload_n 1, 1) := by decide +kernel
theorem d_md_fixed_28 : decode prog_7_method_11_code 28 = .ok (.iload_n 2, 1) := by decide +kernel
theorem d_md_fixed_29 : decode prog_7_method_11_code 29 = .ok (.iastore, 1) := by decide +kernel
theorem d_md_fixed_30 : decode prog_7_method_11_code 30 = .ok (.iconst 1, 1) := by decide +kernel
theorem d_md_fixed_31 : decode prog_7_method_11_code 31 = .ok (.ireturn, 1) := by decide +kernel
theorem d_md_apart_0 : decode prog_7_method_12_code 0 = .ok (.aload_n 0, 1) := by decide +kernel
theorem d_md_apart_1 : decode prog_7_method_12_code 1 = .ok (.iload_n 1, 1) := by decide +kernel
theorem d_md_apart_2 : decode prog_7_method_12_code 2 = .ok (.iload_n 2, 1) := by decide +kernel
theorem d_md_apart_3 : decode prog_7_method_12_code 3 = .ok (.invokevirtual 110, 3) := by decide +kernel
theorem d_md_apart_6 : decode prog_7_method_12_code 6 = .ok (.ifCond .ne 5, 3) := by decide +kernel
theorem d_md_apart_9 : decode prog_7_method_12_code 9 = .ok (.iconst 0, 1) := by decide +kernel
theorem d_md_apart_10 : decode prog_7_method_12_code 10 = .ok (.ireturn, 1) := by decide +kernel
theorem d_md_apart_11 : decode prog_7_method_12_code 11 = .ok (.aload_n 0, 1) := by decide +kernel
theorem d_md_apart_12 : decode prog_7_method_12_code 12 = .ok (.getfield 29, 3) := by decide +kernel
theorem d_md_apart_15 : decode prog_7_method_12_code 15 = .ok (.bipush 7, 2) := by decide +kernel
theorem d_md_apart_17 : decode prog_7_method_12_code 17 = .ok (.iload_n 1, 1) := by decide +kernel
theorem d_md_apart_18 : decode prog_7_method_12_code 18 = .ok (.imul, 1) := by decide +kernel
theorem d_md_apart_19 : decode prog_7_method_12_code 19 = .ok (.iload_n 2, 1) := by decide +kernel
theorem d_md_apart_20 : decode prog_7_method_12_code 20 = .ok (.iadd, 1) := by decide +kernel
theorem d_md_apart_21 : decode prog_7_method_12_code 21 = .ok (.iload_n 3, 1) := by decide +kernel
theorem d_md_apart_22 : decode prog_7_method_12_code 22 = .ok (.bastore, 1) := by decide +kernel
theorem d_md_apart_23 : decode prog_7_method_12_code 23 = .ok (.aload_n 0, 1) := by decide +kernel
theorem d_md_apart_24 : decode prog_7_method_12_code 24 = .ok (.getfield 29, 3) := by decide +kernel
theorem d_md_apart_27 : decode prog_7_method_12_code 27 = .ok (.bipush 7, 2) := by decide +kernel
theorem d_md_apart_29 : decode prog_7_method_12_code 29 = .ok (.iload_n 2, 1) := by decide +kernel
theorem d_md_apart_30 : decode prog_7_method_12_code 30 = .ok (.imul, 1) := by decide +kernel
